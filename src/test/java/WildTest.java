import java.util.Arrays;
import java.util.Random;

/** Wild arguments in any state: nothing is thrown, and what is refused changes nothing. */
public final class WildTest {
  private static final int RUNS = 500;
  private static final int CALLS = 512;

  public static void main(String[] args) {
    Checks c = new Checks();
    for (int run = 0; run < RUNS; run++) {
      oneRun(c, run);
    }
    longDay(c);
    c.finish();
  }

  private static void oneRun(Checks c, int run) {
    Random r = new Random(run);
    BreathStreet x = new BreathStreet();
    if (run % 5 != 0) {
      Checks.feed(x, Calls.text(r));
      x.street();
    }
    for (int k = 0; k < CALLS; k++) {
      String name = Calls.NAMES[r.nextInt(Calls.NAMES.length)];
      int[] a = r.nextBoolean() ? Calls.wild(r) : Calls.fit(r, name, x);
      String before = Checks.all(x);
      int got = Calls.call(x, name, a);
      if (got <= BreathStreet.UNKNOWN) {
        c.same("run " + run + " " + name + Arrays.toString(a) + " refused", Checks.all(x), before);
      }
    }
  }

  /** Far more calls than an object is used for: still nothing is thrown. */
  private static void longDay(Checks c) {
    BreathStreet x = Checks.on(Checks.LANE);
    for (int k = 0; k < 2000; k++) {
      x.step(999);
      x.drift(99);
      x.roll(k % 3);
    }
    c.due("steps are never above 900000", x.told(4) > 900000 ? 1 : 0, 0);
    c.due("step(999) when full", x.step(999), BreathStreet.FULL);
  }
}
