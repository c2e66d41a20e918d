/** Promises 1 to 5: a new object, feed, street, fault, told. */
public final class TextTest {
  private static final Checks C = new Checks();
  private static final String TWO = "f0 2 0 0;f0 2 0 0;";

  public static void main(String[] args) {
    newObject();
    feeding();
    good();
    misplaced();
    bounds();
    tooMany();
    faultLeavesAll();
    becomesStreet();
    C.finish();
  }

  private static void newObject() {
    BreathStreet x = new BreathStreet();
    C.same("new", Checks.all(x), "0 0 0 0 0 0 -1 0 1 0 0 0 0 0 0 ");
    C.due("new fault()", x.fault(), Checks.NONE);
    C.due("told(-1)", x.told(-1), Checks.OUTSIDE);
    C.due("told(15)", x.told(15), Checks.OUTSIDE);
    C.due("new seed(0)", x.seed(0), 0);
    C.due("new field", x.field(0, 0), Checks.UNKNOWN);
    C.due("new goBack", x.goBack(0), Checks.NOT);
  }

  private static void feeding() {
    BreathStreet x = new BreathStreet();
    C.due("feed(-1)", x.feed(-1), Checks.OUTSIDE);
    C.due("feed(256)", x.feed(256), Checks.OUTSIDE);
    C.due("feed(0)", x.feed(0), 1);
    C.due("feed(255)", x.feed(255), 2);
    for (int i = 3; i <= 250; i++) {
      C.due("feed(32)", x.feed(32), i);
    }
    C.due("feed(32) when full", x.feed(32), Checks.FULL);
    C.due("feed(256) when full", x.feed(256), Checks.OUTSIDE);
    C.due("told(3) when full", x.told(3), 250);
    C.due("street()", x.street(), -11);
    C.due("fault()", x.fault(), 0);
    C.due("told(3)", x.told(3), 0);
    C.due("feed(32) again", x.feed(32), 1);
  }

  private static void good() {
    text("", 0, Checks.NONE);
    text("    ", 0, Checks.NONE);
    text("f0 2 0 0;", 1, Checks.NONE);
    text("f99 12 11 9;", 1, Checks.NONE);
    text(" f 0 2  0 0 ; ", 1, Checks.NONE);
    text("f000 002 000 000;", 1, Checks.NONE);
    text(TWO + "h0 99;s0 12 11 12;b1;", 2, Checks.NONE);
    text(TWO + "h0 0;s0 1 0 0;b0;f0 2 0 0;h1 0;s1 1 0 0;", 3, Checks.NONE);
    text("f0 2 0 0;b0;", 1, Checks.NONE);
    text("f0 2 0 0;".repeat(8), 8, Checks.NONE);
    text(TWO + "h0 0;".repeat(4) + "s0 1 0 0;".repeat(4), 2, Checks.NONE);
    text(" ".repeat(241) + "f0 2 0 0;", 1, Checks.NONE);
  }

  private static void misplaced() {
    text("x", -11, 0);
    text(";", -11, 0);
    text("7", -11, 0);
    text("F0 2 0 0;", -11, 0);
    text("\t", -11, 0);
    text("f", -11, 1);
    text("f  ", -11, 3);
    text("f;", -11, 1);
    text("ff", -11, 1);
    text("f0 2 0;", -11, 6);
    text("f0 2 0 0", -11, 8);
    text("f0 2 0 0  ", -11, 10);
    text("f0 2 0 0 0;", -11, 9);
    text("f0 2 0 0 1234;", -11, 9);
    text("f0 2 0 0f", -11, 8);
    text("f0,2 0 0;", -11, 2);
    text("f-1 2 0 0;", -11, 1);
    text("f0 2 0 0;;", -11, 9);
    text("f12 0 0;", -12, 4);
    text("f1 2 00;", -11, 7);
    text("f0 2 0 0;".repeat(8) + "b f0 2 0 0;", -11, 74);
    text("f0 2 0 0;b0", -11, 11);
  }

  private static void bounds() {
    text("f100 2 0 0;", -12, 1);
    text("f0000 2 0 0;", -12, 1);
    text("f 1234567890123 2 0 0;", -12, 2);
    text("f100", -12, 1);
    text("f100x", -12, 1);
    text("f0 1 0 0;", -12, 3);
    text("f0 13 0 0;", -12, 3);
    text("f0 2 12 0;", -12, 5);
    text("f0 2 0 10;", -12, 7);
    text("h0 0;", -12, 1);
    text("s0 1 0 0;", -12, 1);
    text("b0;", -12, 1);
    text("h 0 0;", -12, 2);
    text("f0 2 0 0;h0 0;", -12, 10);
    text("f0 2 0 0;h0 0;f0 2 0 0;", -12, 10);
    text("f0 2 0 0;s0 1 0 0;", -12, 10);
    text("f0 2 0 0;b1;", -12, 10);
    text("f0 2 0 0;b1;f0 2 0 0;", -12, 10);
    text(TWO + "h1 0;", -12, 19);
    text(TWO + "s1 1 0 0;", -12, 19);
    text(TWO + "b2;", -12, 19);
    text(TWO + "h0 100;", -12, 21);
    text(TWO + "s0 0 0 0;", -12, 21);
    text(TWO + "s0 13 0 0;", -12, 21);
    text(TWO + "s0 1 12 0;", -12, 23);
    text(TWO + "s0 1 0 13;", -12, 25);
    text(TWO + "s0 1 0 0013;", -12, 25);
    text(TWO + "h999 x;", -12, 19);
  }

  private static void tooMany() {
    text("f0 2 0 0;".repeat(9), -13, 72);
    text("f0 2 0 0;".repeat(8) + " f", -13, 73);
    text(TWO + "h0 0;".repeat(5), -13, 38);
    text(TWO + "s0 1 0 0;".repeat(5), -13, 54);
    text(TWO + "b0;b0;", -13, 21);
    text(TWO + "b0;b", -13, 21);
  }

  private static void text(String text, int want, int fault) {
    BreathStreet x = new BreathStreet();
    Checks.feed(x, text);
    C.due("street() of '" + text + "'", x.street(), want);
    C.due("fault() of '" + text + "'", x.fault(), fault);
    C.due("told(3) behind '" + text + "'", x.told(3), 0);
    C.due("told(0) behind '" + text + "'", x.told(0), Math.max(0, want));
  }

  private static void faultLeavesAll() {
    BreathStreet x = Checks.on(Checks.LANE);
    x.step(3);
    x.slack(1, 77);
    x.keep(1);
    x.step(1);
    x.hear(1, 1);
    x.see(1, 1, 1);
    x.write(2);
    String before = Checks.all(x);
    Checks.feed(x, "f1 2 0 0;f7 3 0 0;h0 5;x");
    C.due("street() with a fault", x.street(), -11);
    C.due("fault()", x.fault(), 23);
    C.same("all is as it was", Checks.all(x), before);
    C.due("base as it was", x.field(0, 0), 5);
    C.due("goBack as it was", x.goBack(1), 1);
    C.due("street() without a letter", x.street(), 0);
    C.due("fault() is gone", x.fault(), Checks.NONE);
    C.due("no fields", x.told(6), Checks.NONE);
  }

  private static void becomesStreet() {
    BreathStreet x = Checks.on(Checks.LANE);
    x.seed(12345);
    x.step(9);
    x.keep(0);
    x.hold(2);
    x.hear(0, 0);
    x.see(0, 0, 0);
    x.write(0);
    Checks.feed(x, "f1 3 0 0;f7 5 0 0;b1;");
    C.due("street()", x.street(), 2);
    C.same("all told", Checks.all(x), "2 0 0 0 0 0 1 0 15 0 0 0 0 0 0 ");
    C.due("undo(1)", x.undo(1), Checks.NOT);
    C.due("goBack(0)", x.goBack(0), Checks.NOT);
    C.due("seed stays", x.seed(0), 12345);
    BreathStreet y = Checks.on(Checks.LANE);
    C.same("lane", Checks.all(y), "4 2 3 0 0 0 0 0 120 0 0 0 0 4 1 4 9 ");
    y.step(2);
    C.due("open at 2", y.told(13), 6);
    y.hold(1);
    C.due("open at 3", y.told(13), 2);
    C.due("round of all", Checks.on("f0 12 0 0;f0 11 0 0;f0 9 0 0;f0 7 0 0;f0 8 0 0;f0 5 0 0;").told(8), 27720);
    C.due("barrel untold", Checks.on("f0 2 0 0;f0 2 0 0;").told(6), 0);
  }
}
