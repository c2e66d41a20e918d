import java.util.Random;

/** The calls by name, and chance arguments for them. */
final class Calls {
  static final String[] NAMES = {
    "feed", "street", "fault", "told", "field", "height", "house", "seam", "step", "hold", "roll", "slack",
    "drift", "undo", "cracks", "worst", "water", "mill", "bestMill", "soonest", "least", "open", "longest",
    "hear", "began", "watch", "see", "rounds", "cellars", "sluices", "odds", "write", "judge", "tear", "seed",
    "keep", "goBack"};
  private static final int[] EDGES = {
    Integer.MIN_VALUE, -1000000001, -100, -2, -1, 0, 1, 2, 15, 40, 99, 100, 255, 256, 999, 1000, 9999, 10000,
    1000000, 1000001, Integer.MAX_VALUE - 1, Integer.MAX_VALUE};

  private Calls() {
  }

  static int call(BreathStreet x, String name, int[] a) {
    switch (name) {
      case "feed": return x.feed(a[0]);
      case "street": return x.street();
      case "fault": return x.fault();
      case "told": return x.told(a[0]);
      case "field": return x.field(a[0], a[1]);
      case "height": return x.height(a[0], a[1]);
      case "house": return x.house(a[0], a[1]);
      case "seam": return x.seam(a[0], a[1]);
      case "step": return x.step(a[0]);
      case "hold": return x.hold(a[0]);
      case "roll": return x.roll(a[0]);
      case "slack": return x.slack(a[0], a[1]);
      case "drift": return x.drift(a[0]);
      case "undo": return x.undo(a[0]);
      case "cracks": return x.cracks(a[0]);
      case "worst": return x.worst();
      case "water": return x.water(a[0], a[1]);
      case "mill": return x.mill(a[0], a[1]);
      case "bestMill": return x.bestMill();
      case "soonest": return x.soonest(a[0], a[1]);
      case "least": return x.least(a[0], a[1], a[2], a[3]);
      case "open": return x.open(a[0]);
      case "longest": return x.longest(a[0]);
      case "hear": return x.hear(a[0], a[1]);
      case "began": return x.began(a[0]);
      case "watch": return x.watch();
      case "see": return x.see(a[0], a[1], a[2]);
      case "rounds": return x.rounds(a[0], a[1]);
      case "cellars": return x.cellars(a[0], a[1]);
      case "sluices": return x.sluices(a[0], a[1], a[2]);
      case "odds": return x.odds(a[0], a[1], a[2], a[3]);
      case "write": return x.write(a[0]);
      case "judge": return x.judge(a[0]);
      case "tear": return x.tear();
      case "seed": return x.seed(a[0]);
      case "keep": return x.keep(a[0]);
      case "goBack": return x.goBack(a[0]);
      default: throw new IllegalArgumentException(name);
    }
  }

  private static int in(Random r, int low, int high) {
    return low + r.nextInt(high - low + 1);
  }

  /** Any numbers, edges among them. */
  static int[] wild(Random r) {
    int[] a = new int[4];
    for (int k = 0; k < 4; k++) {
      int kind = r.nextInt(4);
      a[k] = kind == 0 ? EDGES[r.nextInt(EDGES.length)] : kind == 1 ? r.nextInt() : in(r, -3, 45);
    }
    return a;
  }

  /** Numbers mostly within their bounds, by x's street; see's heights are often those that are so. */
  static int[] fit(Random r, String name, BreathStreet x) {
    int last = Math.max(0, x.told(0) - 1);
    int f = r.nextInt(20) == 0 ? in(r, -1, 8) : in(r, 0, last);
    int g = in(r, 0, last);
    switch (name) {
      case "feed": return new int[] {in(r, 0, 255)};
      case "told": return new int[] {in(r, -1, 15)};
      case "field": return new int[] {f, in(r, -1, 6)};
      case "height": return new int[] {f, in(r, 0, 1000000)};
      case "house": return new int[] {in(r, -1, 4), in(r, -1, 3)};
      case "seam": return new int[] {in(r, -1, 4), in(r, -1, 4)};
      case "step": case "hold": return new int[] {r.nextInt(9) == 0 ? in(r, 0, 1000) : in(r, 1, 9)};
      case "roll": case "write": return new int[] {r.nextInt(30) == 0 ? in(r, -1, 3) : in(r, 0, 2)};
      case "slack": return new int[] {in(r, 0, 4), in(r, 0, 160)};
      case "drift": return new int[] {in(r, 1, r.nextInt(5) == 0 ? 100 : 12)};
      case "undo": return new int[] {in(r, 0, r.nextInt(3) == 0 ? 41 : 5)};
      case "cracks": return new int[] {in(r, 0, 4)};
      case "water": return new int[] {f, in(r, 0, 99)};
      case "mill": return new int[] {f, in(r, 0, 2)};
      case "soonest": return new int[] {f, g};
      case "least": return new int[] {f, g, in(r, 0, r.nextBoolean() ? 9 : 31), in(r, -1, r.nextBoolean() ? 3 : 30)};
      case "open": case "longest": return new int[] {in(r, 0, r.nextInt(5) == 0 ? 16 : (1 << x.told(2)) - 1)};
      case "hear": return new int[] {f, in(r, 0, 12)};
      case "began": return new int[] {in(r, -2, 10)};
      case "see": return seen(r, f, x);
      case "rounds": return new int[] {f, in(r, -2, r.nextBoolean() ? 5 : 78)};
      case "cellars": return new int[] {in(r, 0, 120), in(r, 1, 40)};
      case "sluices": return new int[] {in(r, 0, 120), in(r, 1, 40), in(r, 0, 1)};
      case "odds": return new int[] {f, in(r, 0, 120), in(r, 1, 20), in(r, 0, 100)};
      case "judge": return new int[] {in(r, 0, 1)};
      case "seed": return new int[] {r.nextInt() & Integer.MAX_VALUE};
      case "keep": case "goBack": return new int[] {in(r, 0, 1)};
      default: return new int[0];
    }
  }

  private static int[] seen(Random r, int f, BreathStreet x) {
    int breath = in(r, 0, r.nextBoolean() ? 12 : 9999);
    int height = x.height(f, breath);
    return new int[] {f, breath, height < 0 || r.nextInt(8) == 0 ? in(r, 0, 150) : height};
  }

  /** A text that is mostly without a fault. */
  static String text(Random r) {
    StringBuilder s = new StringBuilder();
    int fields = in(r, 0, r.nextInt(12) == 0 ? 9 : 8);
    for (int k = 0; k < fields; k++) {
      s.append('f').append(in(r, 0, r.nextBoolean() ? 20 : 99)).append(' ').append(in(r, 2, 12)).append(' ')
          .append(in(r, 0, 11)).append(' ').append(in(r, 0, 9)).append(';');
    }
    int last = r.nextInt(15) == 0 ? fields : fields - 2;
    for (int k = r.nextInt(5); k > 0 && last >= 0; k--) {
      s.append('h').append(in(r, 0, last)).append(' ').append(in(r, 0, 99)).append(';');
    }
    for (int k = r.nextInt(5); k > 0 && last >= 0; k--) {
      s.append('s').append(in(r, 0, last)).append(' ').append(in(r, 1, 12)).append(' ').append(in(r, 0, 11))
          .append(' ').append(in(r, r.nextInt(4) == 0 ? 0 : 1, 12)).append(';');
    }
    if (fields > 0 && r.nextBoolean()) {
      s.append('b').append(in(r, 0, fields - 1)).append(';');
    }
    return s.toString();
  }

  /** The same text with a few letters changed, so that most have a fault somewhere. */
  static String spoilt(Random r, String text) {
    StringBuilder s = new StringBuilder(text);
    String letters = "fhsb;; 0123456789  x";
    for (int k = in(r, 1, 3); k > 0; k--) {
      int at = r.nextInt(s.length() + 1);
      char c = letters.charAt(r.nextInt(letters.length()));
      if (r.nextBoolean() || at == s.length()) {
        s.insert(at, c);
      } else if (r.nextBoolean()) {
        s.setCharAt(at, c);
      } else {
        s.deleteCharAt(at);
      }
    }
    return s.toString();
  }
}
