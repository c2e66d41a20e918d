import java.nio.file.Path;

/** Counts the answers that are not as due, and ends the test. */
final class Checks {
  static final int NONE = BreathStreet.NONE;
  static final int UNKNOWN = BreathStreet.UNKNOWN;
  static final int OUTSIDE = BreathStreet.OUTSIDE;
  static final int NOT = BreathStreet.NOT;
  static final int FULL = BreathStreet.FULL;

  /** The street of the shared tests: four fields, two houses, three seams. */
  static final String LANE = "f5 6 0 3;f8 4 1 2;f2 8 3 4;f9 5 0 1;h0 4;h2 9;s0 3 1 1;s1 4 2 2;s2 2 0 1;b0;";

  private int wrong = 0;

  /** Where the project lies: .ci/run tells it; by hand a test is run from there. */
  static Path root() {
    String told = System.getenv("BREATH_STREET_ROOT");
    return Path.of(told == null ? "." : told);
  }

  void due(String call, long got, long want) {
    if (got != want) {
      wrong++;
      System.out.println(call + " answered " + got + ", due is " + want);
    }
  }

  static void feed(BreathStreet x, String text) {
    for (int i = 0; i < text.length(); i++) {
      x.feed(text.charAt(i));
    }
  }

  /** A new object with this street; a text with a fault is a fault of the test. */
  static BreathStreet on(String text) {
    BreathStreet x = new BreathStreet();
    feed(x, text);
    if (x.street() < 0) {
      throw new IllegalStateException("the test's own text has a fault: " + text);
    }
    return x;
  }

  /** All that told(what) says, for tests that nothing has changed. */
  static String all(BreathStreet x) {
    StringBuilder s = new StringBuilder();
    for (int what = 0; what <= 14; what++) {
      s.append(x.told(what)).append(' ');
    }
    for (int h = 0; h < x.told(1); h++) {
      s.append(x.house(h, 1)).append(' ');
    }
    return s.toString();
  }

  void same(String call, String got, String want) {
    if (!got.equals(want)) {
      wrong++;
      System.out.println(call + ": " + got + ", due is " + want);
    }
  }

  void finish() {
    if (wrong != 0) {
      System.out.println(wrong + " answers are not as due");
      System.exit(1);
    }
  }
}
