import java.util.Arrays;
import java.util.Random;

/** Chance runs of calls, each answered by BreathStreet and by Model. */
public final class ModelTest {
  private static final int RUNS = 400;
  private static final int CALLS = 250;
  private static final int TEXTS = 20000;

  public static void main(String[] args) {
    Checks c = new Checks();
    long first = args.length > 0 ? Long.parseLong(args[0]) : 1;
    for (long run = first; run < first + RUNS; run++) {
      oneRun(c, run);
    }
    texts(c, new Random(first));
    c.finish();
  }

  private static void oneRun(Checks c, long run) {
    Random r = new Random(run);
    BreathStreet x = new BreathStreet();
    Model m = new Model();
    if (r.nextInt(10) != 0) {
      tell(c, x, m, Calls.text(r));
    }
    for (int k = 0; k < CALLS; k++) {
      String name = Calls.NAMES[2 + r.nextInt(Calls.NAMES.length - 2)];
      if (r.nextInt(120) == 0) {
        String text = Calls.text(r);
        tell(c, x, m, r.nextBoolean() ? text : Calls.spoilt(r, text));
      }
      boolean wild = r.nextInt(12) == 0;
      int[] a = wild ? Calls.wild(r) : Calls.fit(r, name, x);
      same(c, "run " + run + " call " + k + " " + name + Arrays.toString(a), x, m, name, a);
    }
    for (int what = 0; what < 15; what++) {
      same(c, "run " + run + " at its end told(" + what + ")", x, m, "told", new int[] {what});
    }
  }

  private static void same(Checks c, String call, BreathStreet x, Model m, String name, int[] a) {
    c.due(call, Calls.call(x, name, a), m.call(name, a));
  }

  private static void tell(Checks c, BreathStreet x, Model m, String text) {
    for (int i = 0; i < text.length(); i++) {
      same(c, "feed", x, m, "feed", new int[] {text.charAt(i)});
    }
    same(c, "street() of '" + text + "'", x, m, "street", new int[0]);
    same(c, "fault() of '" + text + "'", x, m, "fault", new int[0]);
  }

  private static void texts(Checks c, Random r) {
    for (int k = 0; k < TEXTS; k++) {
      tell(c, new BreathStreet(), new Model(), Calls.spoilt(r, Calls.text(r)));
    }
  }
}
