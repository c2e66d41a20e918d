import java.util.ArrayList;
import java.util.Arrays;
import java.util.HashMap;
import java.util.List;
import java.util.Map;
import java.util.TreeSet;

/**
 * The document once more, by the longest way round: whole rounds are gone through, all ways tried,
 * all states kept. It shares nothing with BreathStreet but the document.
 */
final class Model {
  private static final int NONE = -1;
  private static final int UNKNOWN = -1000000001;
  private static final int OUTSIDE = -1000000002;
  private static final int NOT = -1000000003;
  private static final int FULL = -1000000004;

  private final StringBuilder text = new StringBuilder();
  private int faultAt = NONE;
  private List<int[]> fields = new ArrayList<>();
  private List<int[]> houses = new ArrayList<>();
  private List<int[]> seams = new ArrayList<>();
  /** steps, breath, barrel, pulled */
  private int[] now = {0, 0, NONE, 0};
  private List<int[]> past = new ArrayList<>();
  private final int[][] images = new int[2][];
  private long seed = 0;
  private List<int[]> heard = new ArrayList<>();
  private List<int[]> seen = new ArrayList<>();
  private List<Integer> book = new ArrayList<>();

  int call(String name, int[] a) {
    switch (name) {
      case "feed": return feed(a[0]);
      case "street": return street();
      case "fault": return faultAt;
      case "told": return told(a[0]);
      case "field": return field(a[0], a[1]);
      case "height": return !isField(a[0]) ? UNKNOWN : out(a[1], 0, 1000000) ? OUTSIDE : h(a[0], a[1]);
      case "house": return house(a[0], a[1]);
      case "seam": return !isSeam(a[0]) ? UNKNOWN : out(a[1], 0, 3) ? OUTSIDE : seams.get(a[0])[a[1]];
      case "step": return pass(a[0], false);
      case "hold": return pass(a[0], true);
      case "roll": return roll(a[0]);
      case "slack": return slack(a[0], a[1]);
      case "drift": return drift(a[0]);
      case "undo": return undo(a[0]);
      case "cracks": return cracks(a[0]);
      case "worst": return worst();
      case "water": return water(a[0], a[1]);
      case "mill": return mill(a[0], a[1]);
      case "bestMill": return bestMill();
      case "soonest": return soonest(a[0], a[1]);
      case "least": return least(a[0], a[1], a[2], a[3]);
      case "open": return open(a[0]);
      case "longest": return longest(a[0]);
      case "hear": return hear(a[0], a[1]);
      case "began": return ith(origins(), a[0]);
      case "watch": return watch();
      case "see": return see(a[0], a[1], a[2]);
      case "rounds": return !isField(a[0]) ? UNKNOWN : ith(turns(a[0]), a[1]);
      case "cellars": return out(a[0], 0, 999) || out(a[1], 1, 40) ? OUTSIDE : wet(a[0], a[1]);
      case "sluices": return sluices(a[0], a[1], a[2]);
      case "odds": return odds(a[0], a[1], a[2], a[3]);
      case "write": return write(a[0]);
      case "judge": return judge(a[0]);
      case "tear": return tear();
      case "seed": return seedBecomes(a[0]);
      case "keep": return keep(a[0]);
      case "goBack": return goBack(a[0]);
      default: throw new IllegalArgumentException(name);
    }
  }

  private static boolean out(int v, int low, int high) {
    return v < low || v > high;
  }

  private boolean isField(int f) {
    return f >= 0 && f < fields.size();
  }

  private boolean isHouse(int h) {
    return h >= 0 && h < houses.size();
  }

  private boolean isSeam(int s) {
    return s >= 0 && s < seams.size();
  }

  // ---- the street

  private int feed(int letter) {
    if (out(letter, 0, 255)) {
      return OUTSIDE;
    }
    if (text.length() == 250) {
      return FULL;
    }
    return text.append((char) letter).length();
  }

  /** Tokens are {place, kind, value}; kind is the letter, or 0 for a number (value -2: too long). */
  private static List<int[]> tokens(String t) {
    List<int[]> found = new ArrayList<>();
    int i = 0;
    while (i < t.length()) {
      char c = t.charAt(i);
      if (c == ' ') {
        i++;
      } else if (c >= '0' && c <= '9') {
        int j = i;
        while (j < t.length() && t.charAt(j) >= '0' && t.charAt(j) <= '9') {
          j++;
        }
        found.add(new int[] {i, 0, j - i > 3 ? -2 : Integer.parseInt(t.substring(i, j))});
        i = j;
      } else {
        found.add(new int[] {i, c, 0});
        i++;
      }
    }
    found.add(new int[] {t.length(), -1, 0});
    return found;
  }

  private int street() {
    List<int[]> newFields = new ArrayList<>();
    List<int[]> newHouses = new ArrayList<>();
    List<int[]> newSeams = new ArrayList<>();
    List<Integer> barrel = new ArrayList<>();
    List<int[]> tokens = tokens(text.toString());
    text.setLength(0);
    faultAt = NONE;
    int k = 0;
    while (tokens.get(k)[1] != -1) {
      int[] word = tokens.get(k);
      int kind = word[1];
      int n = newFields.size();
      int[][] bounds;
      int have;
      int most;
      if (kind == 'f') {
        bounds = new int[][] {{0, 99}, {2, 12}, {0, 11}, {0, 9}};
        have = n;
        most = 8;
      } else if (kind == 'h') {
        bounds = new int[][] {{0, n - 2}, {0, 99}};
        have = newHouses.size();
        most = 4;
      } else if (kind == 's') {
        bounds = new int[][] {{0, n - 2}, {1, 12}, {0, 11}, {0, 12}};
        have = newSeams.size();
        most = 4;
      } else if (kind == 'b') {
        bounds = new int[][] {{0, n - 1}};
        have = barrel.size();
        most = 1;
      } else {
        return faulty(1, word);
      }
      if (have == most) {
        return faulty(3, word);
      }
      int[] values = new int[bounds.length];
      for (int b = 0; b < bounds.length; b++) {
        k++;
        int[] number = tokens.get(k);
        if (number[1] != 0) {
          return faulty(1, number);
        }
        if (out(number[2], bounds[b][0], bounds[b][1])) {
          return faulty(2, number);
        }
        values[b] = number[2];
      }
      k++;
      if (tokens.get(k)[1] != ';') {
        return faulty(1, tokens.get(k));
      }
      k++;
      if (kind == 'f') {
        newFields.add(values);
      } else if (kind == 'h') {
        newHouses.add(values);
      } else if (kind == 's') {
        newSeams.add(values);
      } else {
        barrel.add(values[0]);
      }
    }
    fields = newFields;
    houses = newHouses;
    seams = newSeams;
    now = new int[] {0, 0, fields.isEmpty() ? NONE : barrel.isEmpty() ? 0 : barrel.get(0), 0};
    past.clear();
    images[0] = null;
    images[1] = null;
    heard.clear();
    seen.clear();
    book.clear();
    return fields.size();
  }

  private int faulty(int kind, int[] token) {
    faultAt = token[0];
    return -10 - kind;
  }

  private int h(int f, int breath) {
    int[] t = fields.get(f);
    return height(t[0], t[1], t[2], t[3], breath);
  }

  private static int height(int b, int n, int l, int s, int breath) {
    int left = (breath + l) % n;
    return b + s * (left < n - left ? left : n - left);
  }

  private int lean(int f, int breath) {
    return f == fields.size() - 1 ? 0 : h(f + 1, breath) - h(f, breath);
  }

  private static int common(List<Integer> of) {
    for (int all = 1;; all++) {
      boolean fits = true;
      for (int n : of) {
        fits &= all % n == 0;
      }
      if (fits) {
        return all;
      }
    }
  }

  private int round() {
    List<Integer> of = new ArrayList<>();
    for (int[] f : fields) {
      of.add(f[1]);
    }
    return common(of);
  }

  private boolean isOpen(int s, int step) {
    int[] t = seams.get(s);
    for (int k = 0; k < t[3]; k++) {
      if (step % t[1] == (t[2] + k) % t[1]) {
        return true;
      }
    }
    return false;
  }

  private boolean cracked(int h, int breath) {
    return Math.abs(lean(houses.get(h)[0], breath)) > houses.get(h)[1];
  }

  private int told(int what) {
    switch (what) {
      case 0: return fields.size();
      case 1: return houses.size();
      case 2: return seams.size();
      case 3: return text.length();
      case 4: case 5: case 6: case 7: return now[what - 4];
      case 8: return round();
      case 9: return heard.size();
      case 10: return seen.size();
      case 11: return book.size();
      case 12: return Math.min(40, past.size());
      case 13: case 14:
        int set = 0;
        for (int k = 0; k < (what == 13 ? seams : houses).size(); k++) {
          if (what == 13 ? isOpen(k, now[0]) : cracked(k, now[1])) {
            set += 1 << k;
          }
        }
        return set;
      default: return OUTSIDE;
    }
  }

  private int field(int f, int what) {
    if (!isField(f)) {
      return UNKNOWN;
    }
    if (out(what, 0, 5)) {
      return OUTSIDE;
    }
    return what < 4 ? fields.get(f)[what] : what == 4 ? h(f, now[1]) : lean(f, now[1]);
  }

  private int needs(int house) {
    int least = 0;
    // No two rounds come together later than 11 and 12 do.
    for (int b = 0; b < 132; b++) {
      least = Math.max(least, Math.abs(lean(houses.get(house)[0], b)));
    }
    return least;
  }

  private int house(int h, int what) {
    if (!isHouse(h)) {
      return UNKNOWN;
    }
    if (out(what, 0, 2)) {
      return OUTSIDE;
    }
    return what < 2 ? houses.get(h)[what] : needs(h);
  }

  // ---- steps

  private void remember() {
    past.add(now.clone());
    // The earliest are forgotten where they are: undone steps do not bring them back.
    if (past.size() > 40) {
      past.remove(0);
    }
  }

  private int pass(int n, boolean held) {
    if (out(n, 1, 999)) {
      return OUTSIDE;
    }
    for (int i = 0; i < n; i++) {
      remember();
      now[0]++;
      now[1] += held ? 0 : 1;
    }
    return now[1];
  }

  private boolean through(int f, int g, int step) {
    for (int s = 0; s < seams.size(); s++) {
      if (seams.get(s)[0] == Math.min(f, g) && !isOpen(s, step)) {
        return false;
      }
    }
    return true;
  }

  private static int to(int f, int way) {
    return f + (way == 1 ? -1 : way == 2 ? 1 : 0);
  }

  /** What is pulled, or NOT. */
  private int tried(int f, int way, int step, int breath) {
    int g = to(f, way);
    if (!isField(f) || !isField(g)) {
      return NOT;
    }
    if (way == 0) {
      return 0;
    }
    return through(f, g, step) ? Math.max(0, h(g, breath) - h(f, breath)) : NOT;
  }

  private int roll(int way) {
    if (out(way, 0, 2)) {
      return OUTSIDE;
    }
    int pulls = tried(now[2], way, now[0] + 1, now[1] + 1);
    if (pulls != NOT) {
      remember();
      now = new int[] {now[0] + 1, now[1] + 1, to(now[2], way), now[3] + pulls};
    }
    return pulls;
  }

  private int slack(int h, int v) {
    if (!isHouse(h)) {
      return UNKNOWN;
    }
    if (out(v, 0, 999)) {
      return OUTSIDE;
    }
    int was = houses.get(h)[1];
    houses.get(h)[1] = v;
    return was;
  }

  private int draw(int n) {
    seed = Math.floorMod(seed * 1103515245L + 12345L, 2147483648L);
    return (int) (seed / 65536 % n);
  }

  private int drift(int n) {
    if (out(n, 1, 99)) {
      return OUTSIDE;
    }
    if (fields.isEmpty()) {
      return NOT;
    }
    for (int i = 0; i < n; i++) {
      int breath = now[1] + (draw(8) == 0 ? 0 : 1);
      int way = draw(3);
      int pulls = tried(now[2], way, now[0] + 1, breath);
      remember();
      if (pulls == NOT) {
        now = new int[] {now[0] + 1, breath, now[2], now[3]};
      } else {
        now = new int[] {now[0] + 1, breath, to(now[2], way), now[3] + pulls};
      }
    }
    return now[2];
  }

  private int undo(int n) {
    if (out(n, 1, 40)) {
      return OUTSIDE;
    }
    if (n > past.size()) {
      return NOT;
    }
    for (int i = 0; i < n; i++) {
      now = past.remove(past.size() - 1);
    }
    return now[0];
  }

  // ---- tried

  private int cracks(int h) {
    if (!isHouse(h)) {
      return UNKNOWN;
    }
    int end = now[1] + round();
    for (int b = now[1]; b <= end; b++) {
      if (cracked(h, b)) {
        return b;
      }
    }
    return NONE;
  }

  private int worst() {
    int best = NONE;
    for (int h = houses.size() - 1; h >= 0; h--) {
      int lack = needs(h) - houses.get(h)[1];
      if (lack > 0 && (best == NONE || lack >= needs(best) - houses.get(best)[1])) {
        best = h;
      }
    }
    return best;
  }

  private int water(int f, int n) {
    if (!isField(f)) {
      return UNKNOWN;
    }
    if (out(n, 0, 99)) {
      return OUTSIDE;
    }
    int at = f;
    for (int i = 1; i <= n; i++) {
      int b = now[1] + i;
      int west = at > 0 ? h(at - 1, b) : 9999;
      int east = at < fields.size() - 1 ? h(at + 1, b) : 9999;
      int own = h(at, b);
      if (west < own && west <= east) {
        at--;
      } else if (east < own) {
        at++;
      }
    }
    return at;
  }

  private int mill(int f, int what) {
    if (!isField(f) || f == fields.size() - 1) {
      return UNKNOWN;
    }
    if (out(what, 0, 2)) {
      return OUTSIDE;
    }
    int[] sums = new int[3];
    int round = round();
    for (int b = now[1]; b < now[1] + round; b++) {
      int lean = lean(f, b);
      sums[0] += lean < 0 ? 1 : 0;
      sums[1] += lean > 0 ? 1 : 0;
      sums[2] += Math.abs(lean);
    }
    return sums[what];
  }

  private int bestMill() {
    int best = NONE;
    for (int f = 0; f + 1 < fields.size(); f++) {
      if (best == NONE || mill(f, 2) > mill(best, 2)) {
        best = f;
      }
    }
    return best;
  }

  private int soonest(int from, int to) {
    if (!isField(from) || !isField(to)) {
      return UNKNOWN;
    }
    TreeSet<Integer> at = new TreeSet<>();
    at.add(from);
    for (int t = 0; t <= 200; t++) {
      if (at.contains(to)) {
        return t;
      }
      TreeSet<Integer> next = new TreeSet<>();
      for (int f : at) {
        for (int way = 0; way < 3; way++) {
          if (tried(f, way, now[0] + t + 1, 0) != NOT) {
            next.add(to(f, way));
          }
        }
      }
      at = next;
    }
    return NONE;
  }

  private int leastSum;
  private List<Integer> leastWays;

  private void search(int at, int to, int left, int t, int sum, List<Integer> ways) {
    if (sum >= leastSum) {
      return;
    }
    if (at == to) {
      leastSum = sum;
      leastWays = new ArrayList<>(ways);
      return;
    }
    for (int way = 0; way < 3 && left > 0; way++) {
      int pulls = tried(at, way, now[0] + t + 1, now[1] + t + 1);
      if (pulls != NOT) {
        ways.add(way);
        search(to(at, way), to, left - 1, t + 1, sum + pulls, ways);
        ways.remove(ways.size() - 1);
      }
    }
  }

  /** All ways of so many steps are too many: on each field only the best way to it is gone on with. */
  private void spread(int from, int to, int n) {
    int[] sums = new int[fields.size()];
    String[] ways = new String[fields.size()];
    ways[from] = "";
    String best = from == to ? "" : null;
    leastSum = from == to ? 0 : leastSum;
    for (int t = 1; t <= n && from != to; t++) {
      int[] nextSums = new int[fields.size()];
      String[] next = new String[fields.size()];
      for (int f = 0; f < fields.size(); f++) {
        for (int way = 0; way < 3 && ways[f] != null; way++) {
          int pulls = tried(f, way, now[0] + t, now[1] + t);
          int g = to(f, way);
          if (pulls != NOT && isBetter(sums[f] + pulls, ways[f] + way, nextSums, next, g)) {
            nextSums[g] = sums[f] + pulls;
            next[g] = ways[f] + way;
          }
        }
      }
      boolean there = next[to] != null;
      if (there && (nextSums[to] < leastSum || nextSums[to] == leastSum && next[to].compareTo(best) < 0)) {
        leastSum = nextSums[to];
        best = next[to];
      }
      next[to] = null;
      sums = nextSums;
      ways = next;
    }
    if (best != null) {
      leastWays = new ArrayList<>();
      for (char c : best.toCharArray()) {
        leastWays.add(c - '0');
      }
    }
  }

  private static boolean isBetter(int sum, String way, int[] sums, String[] ways, int g) {
    return ways[g] == null || sum < sums[g] || sum == sums[g] && way.compareTo(ways[g]) < 0;
  }

  private int least(int from, int to, int n, int i) {
    if (!isField(from) || !isField(to)) {
      return UNKNOWN;
    }
    if (out(n, 1, 30)) {
      return OUTSIDE;
    }
    leastSum = Integer.MAX_VALUE;
    leastWays = null;
    if (n <= 9) {
      search(from, to, n, 0, 0, new ArrayList<>());
    } else {
      spread(from, to, n);
    }
    if (leastWays == null) {
      return NONE;
    }
    return i == NONE ? leastSum : out(i, 0, leastWays.size() - 1) ? NONE : leastWays.get(i);
  }

  private boolean allOpen(int set, int step) {
    for (int s = 0; s < seams.size(); s++) {
      if ((set >> s) % 2 == 1 && !isOpen(s, step)) {
        return false;
      }
    }
    return true;
  }

  private boolean strangers(int set) {
    return set < 0 || set >= 1 << seams.size();
  }

  private int open(int set) {
    if (strangers(set)) {
      return UNKNOWN;
    }
    for (int t = 0; t <= 27720; t++) {
      if (allOpen(set, now[0] + t)) {
        return t;
      }
    }
    return NONE;
  }

  private int longest(int set) {
    if (strangers(set)) {
      return UNKNOWN;
    }
    int most = 0;
    int run = 0;
    for (int t = 0; t < 2 * 6930; t++) {
      run = allOpen(set, now[0] + t) ? run + 1 : 0;
      most = Math.max(most, run);
    }
    return most == 2 * 6930 ? NONE : most;
  }

  // ---- what was heard, seen

  private int hear(int f, int ago) {
    if (!isField(f)) {
      return UNKNOWN;
    }
    if (out(ago, 0, 30)) {
      return OUTSIDE;
    }
    if (heard.size() == 12) {
      return FULL;
    }
    heard.add(new int[] {f, ago});
    return heard.size();
  }

  private List<Integer> origins() {
    List<Integer> found = new ArrayList<>();
    for (int f = 0; f < fields.size(); f++) {
      for (int ago = 0; ago <= 30; ago++) {
        boolean so = true;
        for (int[] e : heard) {
          so &= e[1] + Math.abs(e[0] - f) == ago;
        }
        if (so) {
          found.add(100 * f + ago);
        }
      }
    }
    return found;
  }

  private static int ith(List<Integer> of, int i) {
    return i == NONE ? of.size() : out(i, 0, of.size() - 1) ? NONE : of.get(i);
  }

  private int watch() {
    List<Integer> all = origins();
    int best = NONE;
    int least = all.size();
    for (int f = 0; f < fields.size() && all.size() >= 2; f++) {
      Map<Integer, Integer> parts = new HashMap<>();
      int greatest = 0;
      for (int o : all) {
        greatest = Math.max(greatest, parts.merge(o % 100 - Math.abs(o / 100 - f), 1, Integer::sum));
      }
      if (greatest < least) {
        least = greatest;
        best = f;
      }
    }
    return best;
  }

  private int see(int f, int breath, int height) {
    if (!isField(f)) {
      return UNKNOWN;
    }
    if (out(breath, 0, 9999) || out(height, 0, 999)) {
      return OUTSIDE;
    }
    if (seen.size() == 12) {
      return FULL;
    }
    seen.add(new int[] {f, breath, height});
    return seen.size();
  }

  private List<Integer> turns(int f) {
    List<Integer> found = new ArrayList<>();
    for (int n = 2; n <= 12; n++) {
      for (int l = 0; l < n; l++) {
        boolean so = true;
        for (int[] e : seen) {
          so &= e[0] != f || height(fields.get(f)[0], n, l, fields.get(f)[3], e[1]) == e[2];
        }
        if (so) {
          found.add(100 * n + l);
        }
      }
    }
    return found;
  }

  private int wet(int v, int n) {
    int set = 0;
    for (int f = 0; f < fields.size(); f++) {
      boolean floods = false;
      for (int b = now[1]; b < now[1] + n; b++) {
        floods |= h(f, b) < v;
      }
      set += floods ? 1 << f : 0;
    }
    return set;
  }

  private int sluices(int v, int n, int what) {
    if (out(v, 0, 999) || out(n, 1, 40) || out(what, 0, 1)) {
      return OUTSIDE;
    }
    int wet = wet(v, n);
    for (int count = 0; count <= 7; count++) {
      for (int set = 0; set < 128; set++) {
        if (Integer.bitCount(set) == count && (set == 0 || set < 1 << Math.max(0, fields.size() - 1)) && dry(wet, set)) {
          return what == 0 ? count : set;
        }
      }
    }
    return NONE;
  }

  private static boolean dry(int wet, int set) {
    for (int f = 0; f < 8; f++) {
      boolean east = (set >> f) % 2 == 1;
      boolean west = f > 0 && (set >> f - 1) % 2 == 1;
      if ((wet >> f) % 2 == 1 && !east && !west) {
        return false;
      }
    }
    return true;
  }

  private int odds(int f, int v, int n, int q) {
    if (!isField(f)) {
      return UNKNOWN;
    }
    if (out(v, 0, 999) || out(n, 1, 20) || out(q, 0, 100)) {
      return OUTSIDE;
    }
    long[] by = new long[n + 1];
    by[0] = 1000000000L;
    for (int i = 0; i < n; i++) {
      long[] next = new long[n + 1];
      for (int k = 0; k <= i; k++) {
        long held = by[k] * q / 100;
        next[k + 1] += held;
        next[k] += by[k] - held;
      }
      by = next;
    }
    long sum = 0;
    for (int k = 0; k <= n; k++) {
      sum += h(f, now[1] + n - k) >= v ? by[k] : 0;
    }
    return (int) sum;
  }

  // ---- books, images

  private int write(int way) {
    if (out(way, 0, 2)) {
      return OUTSIDE;
    }
    if (book.size() == 30) {
      return FULL;
    }
    book.add(way);
    return book.size();
  }

  private int judge(int what) {
    if (out(what, 0, 1)) {
      return OUTSIDE;
    }
    if (fields.isEmpty()) {
      return NOT;
    }
    int at = now[2];
    int sum = 0;
    for (int k = 0; k < book.size(); k++) {
      int pulls = tried(at, book.get(k), now[0] + k + 1, now[1] + k + 1);
      if (pulls == NOT) {
        return what == 0 ? k : sum;
      }
      sum += pulls;
      at = to(at, book.get(k));
    }
    return what == 0 ? NONE : sum;
  }

  private int tear() {
    int all = heard.size() + seen.size() + book.size();
    heard.clear();
    seen.clear();
    book.clear();
    return all;
  }

  private int seedBecomes(int v) {
    if (v < 0) {
      return OUTSIDE;
    }
    int was = (int) seed;
    seed = v;
    return was;
  }

  private int keep(int i) {
    if (out(i, 0, 1)) {
      return UNKNOWN;
    }
    int[] image = Arrays.copyOf(now, 9);
    for (int h = 0; h < houses.size(); h++) {
      image[4 + h] = houses.get(h)[1];
    }
    image[8] = (int) seed;
    images[i] = image;
    past.clear();
    return 1;
  }

  private int goBack(int i) {
    if (out(i, 0, 1)) {
      return UNKNOWN;
    }
    if (images[i] == null) {
      return NOT;
    }
    now = Arrays.copyOf(images[i], 4);
    for (int h = 0; h < houses.size(); h++) {
      houses.get(h)[1] = images[i][4 + h];
    }
    seed = images[i][8];
    past.clear();
    return 1;
  }
}
