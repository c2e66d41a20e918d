/** Promises 33 to 38: write, judge, tear, seed, keep, goBack. */
public final class BooksTest {
  private static final Checks C = new Checks();

  public static void main(String[] args) {
    write();
    judge();
    tear();
    seed();
    images();
    C.finish();
  }

  private static void write() {
    BreathStreet x = new BreathStreet();
    C.due("write(3)", x.write(3), Checks.OUTSIDE);
    C.due("write(-1)", x.write(-1), Checks.OUTSIDE);
    for (int i = 1; i <= 30; i++) {
      C.due("write", x.write(i % 3), i);
    }
    C.due("write(0) when full", x.write(0), Checks.FULL);
    C.due("write(3) when full", x.write(3), Checks.OUTSIDE);
    C.due("told(11)", x.told(11), 30);
  }

  private static void judge() {
    BreathStreet none = new BreathStreet();
    C.due("judge(0) without fields", none.judge(0), Checks.NOT);
    C.due("judge(2) without fields", none.judge(2), Checks.OUTSIDE);
    // Field 1 at 0, 5, 10, 5; the seam is open in odd steps.
    BreathStreet x = Checks.on("f0 2 0 0;f0 4 0 5;s0 2 1 1;");
    C.due("an empty book", x.judge(0), Checks.NONE);
    C.due("an empty book", x.judge(1), 0);
    x.write(2);
    x.write(0);
    x.write(1);
    x.write(0);
    x.write(2);
    C.due("no line is wrong", x.judge(0), Checks.NONE);
    C.due("all pulled", x.judge(1), 10);
    x.write(2);
    x.write(0);
    C.due("off the street", x.judge(0), 5);
    C.due("pulled ahead of it", x.judge(1), 10);
    C.due("nothing moves", x.told(6), 0);
    C.due("nothing passes", x.told(4), 0);
    C.due("nothing is pulled", x.told(7), 0);
    x.step(1);
    C.due("the seam is shut", x.judge(0), 0);
    C.due("the seam is shut", x.judge(1), 0);
    C.due("judge(2)", x.judge(2), Checks.OUTSIDE);
    C.due("judge(-1)", x.judge(-1), Checks.OUTSIDE);
  }

  private static void tear() {
    BreathStreet x = Checks.on("f0 2 0 0;");
    C.due("tear() of nothing", x.tear(), 0);
    x.hear(0, 0);
    x.hear(0, 1);
    x.see(0, 0, 0);
    x.write(0);
    x.write(1);
    x.write(2);
    x.step(1);
    C.due("tear()", x.tear(), 6);
    C.due("heard", x.told(9), 0);
    C.due("seen", x.told(10), 0);
    C.due("book", x.told(11), 0);
    C.due("steps stay", x.told(4), 1);
    C.due("undo stays", x.told(12), 1);
    C.due("write(1)", x.write(1), 1);
  }

  private static void seed() {
    BreathStreet x = new BreathStreet();
    C.due("seed(7)", x.seed(7), 0);
    C.due("seed(-1)", x.seed(-1), Checks.OUTSIDE);
    C.due("seed(MIN)", x.seed(Integer.MIN_VALUE), Checks.OUTSIDE);
    C.due("seed(MAX)", x.seed(Integer.MAX_VALUE), 7);
    C.due("seed(0)", x.seed(0), Integer.MAX_VALUE);
  }

  private static void images() {
    BreathStreet x = Checks.on(Checks.LANE);
    C.due("goBack(0)", x.goBack(0), Checks.NOT);
    C.due("goBack(2)", x.goBack(2), Checks.UNKNOWN);
    C.due("goBack(-1)", x.goBack(-1), Checks.UNKNOWN);
    C.due("keep(2)", x.keep(2), Checks.UNKNOWN);
    C.due("keep(-1)", x.keep(-1), Checks.UNKNOWN);
    x.seed(77);
    x.drift(30);
    x.slack(1, 44);
    x.write(2);
    String before = Checks.all(x);
    C.due("keep(1)", x.keep(1), 1);
    C.due("nothing to be undone", x.undo(1), Checks.NOT);
    C.due("goBack(0) was not kept", x.goBack(0), Checks.NOT);
    int seed = x.seed(5);
    x.drift(25);
    x.slack(1, 9);
    x.slack(0, 9);
    x.write(1);
    C.due("keep(0)", x.keep(0), 1);
    x.step(3);
    C.due("goBack(1)", x.goBack(1), 1);
    C.due("seed", x.seed(seed), seed);
    C.due("steps", x.told(4), 30);
    C.due("the book stays", x.told(11), 2);
    C.due("slack", x.house(1, 1), 44);
    C.due("slack", x.house(0, 1), 4);
    C.due("nothing to be undone", x.told(12), 0);
    x.tear();
    x.write(2);
    C.same("all is as it was", Checks.all(x), before.replace(" 1 30 ", " 1 0 "));
    C.due("goBack(0)", x.goBack(0), 1);
    C.due("steps", x.told(4), 55);
    C.due("slack", x.house(0, 1), 9);
    C.due("goBack(1) again", x.goBack(1), 1);
    C.due("steps", x.told(4), 30);
    BreathStreet none = new BreathStreet();
    none.step(4);
    C.due("keep without fields", none.keep(0), 1);
    none.step(4);
    C.due("goBack without fields", none.goBack(0), 1);
    C.due("steps", none.told(4), 4);
  }
}
