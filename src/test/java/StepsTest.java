/** Promises 10 to 15: step, hold, roll, slack, drift, undo. */
public final class StepsTest {
  private static final Checks C = new Checks();

  public static void main(String[] args) {
    stepAndHold();
    rolls();
    seamsBetween();
    slacks();
    drifts();
    undone();
    C.finish();
  }

  private static void stepAndHold() {
    BreathStreet x = new BreathStreet();
    C.due("step(1) without fields", x.step(1), 1);
    C.due("step(999)", x.step(999), 1000);
    C.due("hold(999)", x.hold(999), 1000);
    C.due("hold(1)", x.hold(1), 1000);
    C.due("steps", x.told(4), 2000);
    C.due("breath", x.told(5), 1000);
    C.due("barrel", x.told(6), Checks.NONE);
    int[] wrong = {0, -1, 1000, Integer.MIN_VALUE, Integer.MAX_VALUE};
    for (int n : wrong) {
      C.due("step(" + n + ")", x.step(n), Checks.OUTSIDE);
      C.due("hold(" + n + ")", x.hold(n), Checks.OUTSIDE);
    }
    C.due("steps as they were", x.told(4), 2000);
    C.due("undo(3)", x.undo(3), 1997);
    C.due("breath stays by undone holds", x.told(5), 1000);
  }

  private static void rolls() {
    // Field 0 is at 0, field 1 at 0, 5, 10, 5.
    BreathStreet x = Checks.on("f0 2 0 0;f0 4 0 5;");
    C.due("roll(1) off the street", x.roll(1), Checks.NOT);
    C.due("roll(3)", x.roll(3), Checks.OUTSIDE);
    C.due("roll(-1)", x.roll(-1), Checks.OUTSIDE);
    C.due("steps as they were", x.told(4), 0);
    C.due("roll(2) pulls by the height behind", x.roll(2), 5);
    C.due("where", x.told(6), 1);
    C.due("pulled", x.told(7), 5);
    C.due("roll(2) off the street", x.roll(2), Checks.NOT);
    C.due("roll(1) down", x.roll(1), 0);
    C.due("pulled", x.told(7), 5);
    C.due("roll(0)", x.roll(0), 0);
    C.due("steps", x.told(4), 3);
    C.due("breath", x.told(5), 3);
    x.step(2);
    C.due("roll(2)", x.roll(2), 10);
    C.due("pulled", x.told(7), 15);
    BreathStreet none = new BreathStreet();
    C.due("roll(0) without fields", none.roll(0), Checks.NOT);
    C.due("roll(9) without fields", none.roll(9), Checks.OUTSIDE);
  }

  private static void seamsBetween() {
    // Through only where both are open: in steps that leave 1 over by 2 and 0 over by 3.
    BreathStreet x = Checks.on("f0 2 0 0;f0 2 0 0;s0 2 1 1;s0 3 0 1;");
    int[] due = {Checks.NOT, Checks.NOT, 0};
    for (int t = 0; t < due.length; t++) {
      C.due("roll(2) into step " + (t + 1), x.roll(2), due[t]);
      if (due[t] == Checks.NOT) {
        C.due("roll(0) past a seam", x.roll(0), 0);
      }
    }
    C.due("west into step 4", x.roll(1), Checks.NOT);
    x.hold(5);
    C.due("west into step 9", x.roll(1), 0);
    C.due("breath", x.told(5), 4);
  }

  private static void slacks() {
    BreathStreet x = Checks.on(Checks.LANE);
    C.due("slack(0, 999)", x.slack(0, 999), 4);
    C.due("slack(0, 0)", x.slack(0, 0), 999);
    C.due("slack(0, 1000)", x.slack(0, 1000), Checks.OUTSIDE);
    C.due("slack(0, -1)", x.slack(0, -1), Checks.OUTSIDE);
    C.due("slack(2, -1)", x.slack(2, -1), Checks.UNKNOWN);
    C.due("slack(-1, 0)", x.slack(-1, 0), Checks.UNKNOWN);
    C.due("house(0, 1)", x.house(0, 1), 0);
    C.due("house(1, 1)", x.house(1, 1), 9);
  }

  private static void drifts() {
    BreathStreet x = Checks.on(Checks.LANE);
    C.due("drift(0)", x.drift(0), Checks.OUTSIDE);
    C.due("drift(100)", x.drift(100), Checks.OUTSIDE);
    C.due("seed as it was", x.seed(9), 0);
    long seed = 9;
    int held = 0;
    x.drift(99);
    for (int i = 0; i < 99; i++) {
      seed = (seed * 1103515245L + 12345L) % 2147483648L;
      held += seed / 65536 % 8 == 0 ? 1 : 0;
      seed = (seed * 1103515245L + 12345L) % 2147483648L;
    }
    C.due("steps", x.told(4), 99);
    C.due("breath", x.told(5), 99 - held);
    C.due("to be undone", x.told(12), 40);
    C.due("seed", x.seed(0), seed);
    BreathStreet none = new BreathStreet();
    C.due("drift(1) without fields", none.drift(1), Checks.NOT);
    C.due("drift(0) without fields", none.drift(0), Checks.OUTSIDE);
    C.due("seed as it was", none.seed(0), 0);
    C.due("a greatest seed", none.seed(2147483647), 0);
  }

  private static void undone() {
    BreathStreet x = Checks.on("f0 2 0 0;f0 4 0 5;h0 1;");
    C.due("undo(1) of nothing", x.undo(1), Checks.NOT);
    x.roll(2);
    x.hold(1);
    x.roll(1);
    x.slack(0, 50);
    x.seed(4);
    C.due("told(12)", x.told(12), 3);
    C.due("undo(0)", x.undo(0), Checks.OUTSIDE);
    C.due("undo(41)", x.undo(41), Checks.OUTSIDE);
    C.due("undo(4)", x.undo(4), Checks.NOT);
    C.due("undo(1)", x.undo(1), 2);
    C.due("barrel", x.told(6), 1);
    C.due("pulled", x.told(7), 5);
    C.due("undo(2)", x.undo(2), 0);
    C.due("barrel", x.told(6), 0);
    C.due("pulled", x.told(7), 0);
    C.due("slack stays", x.house(0, 1), 50);
    C.due("seed stays", x.seed(0), 4);
    x.step(41);
    C.due("told(12)", x.told(12), 40);
    C.due("undo(39)", x.undo(39), 2);
    C.due("undo(2)", x.undo(2), Checks.NOT);
    C.due("undo(1)", x.undo(1), 1);
    x.step(30);
    x.hold(30);
    C.due("undo(35)", x.undo(35), 26);
    C.due("breath", x.told(5), 26);
    C.due("told(12)", x.told(12), 5);
    x.step(2);
    C.due("told(12)", x.told(12), 7);
    C.due("undo(7)", x.undo(7), 21);
  }
}
