/** Promises 16 to 24: cracks, worst, water, mill, bestMill, soonest, least, open, longest. */
public final class TriedTest {
  private static final Checks C = new Checks();

  public static void main(String[] args) {
    cracks();
    worst();
    water();
    mills();
    soonest();
    least();
    seamHours();
    C.finish();
  }

  private static void cracks() {
    // Leans of the gap: 20, 15, 10, 15.
    BreathStreet x = Checks.on("f0 4 0 5;f20 2 0 0;h0 19;");
    C.due("cracks(0) now", x.cracks(0), 0);
    x.step(1);
    C.due("cracks(0) as a breath", x.cracks(0), 4);
    x.hold(9);
    C.due("held steps do not count", x.cracks(0), 4);
    x.slack(0, 20);
    C.due("as much as the slack is no crack", x.cracks(0), Checks.NONE);
    C.due("none cracks now", x.told(14), 0);
    x.slack(0, 14);
    C.due("cracks(0) now", x.cracks(0), 1);
    C.due("cracks now", x.told(14), 1);
    C.due("cracks(1)", x.cracks(1), Checks.UNKNOWN);
    C.due("cracks(-1)", x.cracks(-1), Checks.UNKNOWN);
    // 11 and 12 come together at the end of their round alone.
    BreathStreet y = Checks.on("f0 11 6 9;f0 12 0 9;h0 53;");
    C.due("late in the round", y.cracks(0), 126);
    C.due("needs 54", y.house(0, 2), 54);
  }

  private static void worst() {
    BreathStreet x = Checks.on("f0 2 0 0;f5 2 0 0;f12 2 0 0;h0 1;h1 3;h1 0;");
    C.due("worst()", x.worst(), 2);
    x.slack(2, 3);
    C.due("of like ones the least", x.worst(), 0);
    x.slack(0, 5);
    C.due("worst()", x.worst(), 1);
    x.slack(1, 7);
    x.slack(2, 8);
    C.due("none needs any", x.worst(), Checks.NONE);
    C.due("worst() without houses", new BreathStreet().worst(), Checks.NONE);
  }

  private static void water() {
    BreathStreet x = Checks.on("f5 2 0 0;f9 2 0 0;f5 2 0 0;f4 2 0 0;");
    C.due("water(1, 0)", x.water(1, 0), 1);
    C.due("of like ones the west one", x.water(1, 1), 0);
    C.due("it stays in the hollow", x.water(1, 99), 0);
    C.due("water(2, 1)", x.water(2, 1), 3);
    C.due("water(3, 99)", x.water(3, 99), 3);
    C.due("water(0, -1)", x.water(0, -1), Checks.OUTSIDE);
    C.due("water(0, 100)", x.water(0, 100), Checks.OUTSIDE);
    C.due("water(4, 100)", x.water(4, 100), Checks.UNKNOWN);
    BreathStreet level = Checks.on("f5 2 0 0;f5 2 0 0;");
    C.due("not on the level", level.water(1, 9), 1);
    // Field 1 stands at 0, 9, 0, 9 and field 0 at 4: it runs both ways.
    BreathStreet both = Checks.on("f4 2 0 0;f0 2 0 9;");
    C.due("up behind one step", both.water(1, 1), 0);
    C.due("back behind two", both.water(1, 2), 1);
    both.step(1);
    C.due("from now", both.water(1, 1), 1);
    BreathStreet lower = Checks.on("f5 2 0 0;f9 2 0 0;f4 2 0 0;");
    C.due("the lower one", lower.water(1, 1), 2);
  }

  private static void mills() {
    // Leans of gap 0: -4, 1 (of 4 over by 2), of gap 1: 4, 6, and 3 makes the round 6.
    BreathStreet x = Checks.on("f4 2 0 0;f0 2 0 5;f6 3 0 0;");
    C.due("mill(0, 0)", x.mill(0, 0), 3);
    C.due("mill(0, 1)", x.mill(0, 1), 3);
    C.due("mill(0, 2)", x.mill(0, 2), 15);
    C.due("mill(1, 0)", x.mill(1, 0), 0);
    C.due("mill(1, 1)", x.mill(1, 1), 6);
    C.due("mill(1, 2)", x.mill(1, 2), 21);
    C.due("mill(2, 0)", x.mill(2, 0), Checks.UNKNOWN);
    C.due("mill(-1, 9)", x.mill(-1, 9), Checks.UNKNOWN);
    C.due("mill(0, 3)", x.mill(0, 3), Checks.OUTSIDE);
    C.due("mill(0, -1)", x.mill(0, -1), Checks.OUTSIDE);
    C.due("bestMill()", x.bestMill(), 1);
    x.step(5);
    C.due("mill(0, 2) later", x.mill(0, 2), 15);
    C.due("level: the least", Checks.on("f1 2 0 0;f1 2 0 0;f1 2 0 0;").bestMill(), 0);
    C.due("level runs nowhere", Checks.on("f1 2 0 0;f1 2 0 0;").mill(0, 0), 0);
    C.due("one field", Checks.on("f1 2 0 0;").bestMill(), Checks.NONE);
    C.due("no field", new BreathStreet().bestMill(), Checks.NONE);
  }

  private static void soonest() {
    BreathStreet x = Checks.on("f0 2 0 0;f0 2 0 0;f0 2 0 0;s0 5 3 1;s1 5 3 1;");
    C.due("soonest(0, 0)", x.soonest(0, 0), 0);
    C.due("soonest(0, 1)", x.soonest(0, 1), 3);
    C.due("soonest(0, 2)", x.soonest(0, 2), 8);
    C.due("soonest(2, 0)", x.soonest(2, 0), 8);
    x.step(3);
    C.due("soonest(0, 1) later", x.soonest(0, 1), 5);
    C.due("soonest(0, 3)", x.soonest(0, 3), Checks.UNKNOWN);
    C.due("soonest(-1, 0)", x.soonest(-1, 0), Checks.UNKNOWN);
    C.due("never", Checks.on("f0 2 0 0;f0 2 0 0;s0 3 0 0;").soonest(1, 0), Checks.NONE);
    // Both are open in a step that leaves 0 over by 12 and 1 over by 11: 12; then 144; then 276.
    BreathStreet far = Checks.on("f0 2 0 0;f0 2 0 0;f0 2 0 0;f0 2 0 0;"
        + "s0 12 0 1;s0 11 1 1;s1 12 0 1;s1 11 1 1;");
    C.due("144 steps", far.soonest(0, 2), 144);
    far.step(75);
    C.due("201 steps are too many", far.soonest(0, 2), Checks.NONE);
    far.step(1);
    C.due("200 steps are not", far.soonest(0, 2), 200);
  }

  private static void least() {
    // Field 1 stands at 0, 5, 10, 5; field 0 at 0.
    BreathStreet x = Checks.on("f0 2 0 0;f0 4 0 5;");
    C.due("at most 3 steps", x.least(0, 1, 3, -1), 5);
    C.due("the first of like ones", x.least(0, 1, 3, 0), 0);
    C.due("the first of like ones", x.least(0, 1, 3, 1), 0);
    C.due("the first of like ones", x.least(0, 1, 3, 2), 2);
    C.due("it ends there", x.least(0, 1, 3, 3), Checks.NONE);
    C.due("4 steps", x.least(0, 1, 4, -1), 0);
    C.due("4 steps, the last", x.least(0, 1, 4, 3), 2);
    C.due("2 steps", x.least(0, 1, 2, 0), 2);
    C.due("2 steps, it ends there", x.least(0, 1, 2, 1), Checks.NONE);
    x.step(3);
    C.due("from now", x.least(0, 1, 1, -1), 0);
    C.due("it is there", x.least(1, 1, 5, -1), 0);
    C.due("it is there", x.least(1, 1, 5, 0), Checks.NONE);
    C.due("least(0, 1, 0, -1)", x.least(0, 1, 0, -1), Checks.OUTSIDE);
    C.due("least(0, 1, 31, -1)", x.least(0, 1, 31, -1), Checks.OUTSIDE);
    C.due("least(2, 1, 31, -1)", x.least(2, 1, 31, -1), Checks.UNKNOWN);
    C.due("least(0, -1, 1, -1)", x.least(0, -1, 1, -1), Checks.UNKNOWN);
    C.due("no such step", x.least(0, 1, 5, -2), Checks.NONE);
    C.due("no such step", x.least(0, 1, 5, Integer.MAX_VALUE), Checks.NONE);
    BreathStreet wide = Checks.on("f0 2 0 0;f0 2 0 0;f0 2 0 0;");
    C.due("too far", wide.least(0, 2, 1, -1), Checks.NONE);
    C.due("too far", wide.least(0, 2, 1, 0), Checks.NONE);
    C.due("staying comes first", wide.least(2, 0, 3, 0), 0);
    C.due("then west", wide.least(2, 0, 3, 1), 1);
  }

  private static void seamHours() {
    BreathStreet x = Checks.on("f0 2 0 0;f0 2 0 0;s0 3 2 1;s0 5 3 2;s0 7 0 0;s0 4 1 4;");
    C.due("open(0)", x.open(0), 0);
    C.due("open(1)", x.open(1), 2);
    C.due("open(2)", x.open(2), 3);
    C.due("open(3)", x.open(3), 8);
    C.due("open(11)", x.open(11), 8);
    C.due("open(4)", x.open(4), Checks.NONE);
    C.due("open(15)", x.open(15), Checks.NONE);
    C.due("open(16)", x.open(16), Checks.UNKNOWN);
    C.due("open(-1)", x.open(-1), Checks.UNKNOWN);
    C.due("open(MIN)", x.open(Integer.MIN_VALUE), Checks.UNKNOWN);
    C.due("longest(0)", x.longest(0), Checks.NONE);
    C.due("longest(1)", x.longest(1), 1);
    C.due("longest(2)", x.longest(2), 2);
    C.due("longest(3)", x.longest(3), 1);
    C.due("longest(4)", x.longest(4), 0);
    C.due("longest(8)", x.longest(8), Checks.NONE);
    C.due("longest(10)", x.longest(10), 2);
    C.due("longest(16)", x.longest(16), Checks.UNKNOWN);
    C.due("longest(-1)", x.longest(-1), Checks.UNKNOWN);
    x.hold(3);
    C.due("open(3) from step 3", x.open(3), 5);
    x.step(6);
    C.due("open(3) from step 9", x.open(3), 5);
    // Never together: one in even steps, one in odd ones.
    BreathStreet odd = Checks.on("f0 2 0 0;f0 2 0 0;s0 4 0 1;s0 6 1 1;");
    C.due("never together", odd.open(3), Checks.NONE);
    C.due("never together", odd.longest(3), 0);
    // Steps 4, 5, 0, 1 over by 6: a run round the end of the round.
    BreathStreet round = Checks.on("f0 2 0 0;f0 2 0 0;s0 6 4 4;s0 3 1 2;s0 6 0 12;");
    C.due("round its end", round.longest(1), 4);
    C.due("both", round.longest(7), 2);
    C.due("no seams", new BreathStreet().open(1), Checks.UNKNOWN);
    C.due("no seams", new BreathStreet().open(0), 0);
  }
}
