/** Promises 25 to 32: hear, began, watch, see, rounds, cellars, sluices, odds. */
public final class HeardTest {
  private static final Checks C = new Checks();

  public static void main(String[] args) {
    hear();
    began();
    watch();
    see();
    rounds();
    cellars();
    sluices();
    odds();
    C.finish();
  }

  private static void hear() {
    BreathStreet x = Checks.on("f0 2 0 0;f0 2 0 0;");
    C.due("hear(2, 31)", x.hear(2, 31), Checks.UNKNOWN);
    C.due("hear(-1, 0)", x.hear(-1, 0), Checks.UNKNOWN);
    C.due("hear(0, 31)", x.hear(0, 31), Checks.OUTSIDE);
    C.due("hear(0, -1)", x.hear(0, -1), Checks.OUTSIDE);
    for (int i = 1; i <= 12; i++) {
      C.due("hear(1, 30)", x.hear(1, 30), i);
    }
    C.due("hear(1, 30) when full", x.hear(1, 30), Checks.FULL);
    C.due("hear(1, 31) when full", x.hear(1, 31), Checks.OUTSIDE);
    C.due("told(9)", x.told(9), 12);
    C.due("a full ear", x.began(-1), 1);
    C.due("a full ear", x.began(0), 130);
  }

  private static void began() {
    BreathStreet x = Checks.on("f0 2 0 0;f0 2 0 0;f0 2 0 0;");
    C.due("nothing heard: all", x.began(-1), 93);
    C.due("nothing heard: the first", x.began(0), 0);
    C.due("nothing heard: the 32nd", x.began(31), 100);
    C.due("nothing heard: the last", x.began(92), 230);
    C.due("not so many", x.began(93), Checks.NONE);
    C.due("not so many", x.began(-2), Checks.NONE);
    x.hear(1, 29);
    C.due("began(-1)", x.began(-1), 3);
    C.due("began(0)", x.began(0), 30);
    C.due("began(1)", x.began(1), 129);
    C.due("began(2)", x.began(2), 230);
    x.tear();
    x.hear(0, 30);
    C.due("not earlier than 30", x.began(-1), 1);
    x.tear();
    x.hear(0, 2);
    x.hear(2, 0);
    C.due("both heard", x.began(-1), 1);
    C.due("both heard", x.began(0), 2);
    C.due("no fields", new BreathStreet().began(-1), 0);
    C.due("no fields", new BreathStreet().began(0), Checks.NONE);
  }

  private static void watch() {
    BreathStreet x = Checks.on("f0 2 0 0;f0 2 0 0;f0 2 0 0;f0 2 0 0;");
    x.hear(1, 4);
    C.due("watch()", x.watch(), 2);
    x.hear(2, 3);
    C.due("of like ones the least", x.watch(), 0);
    x.hear(0, 5);
    C.due("one alone", x.watch(), Checks.NONE);
    x.hear(0, 4);
    C.due("none", x.watch(), Checks.NONE);
    C.due("one field, nothing heard", Checks.on("f0 2 0 0;").watch(), 0);
    C.due("no fields", new BreathStreet().watch(), Checks.NONE);
    // (0, 0) and (1, 1): it comes to 0 now for both, to 1 in a step or has come.
    BreathStreet late = Checks.on("f0 2 0 0;f0 2 0 0;");
    late.hear(0, 0);
    C.due("what is still to come parts too", late.watch(), 1);
    // (0, 30), (1, 29), (2, 30): field 1 does not part them, and nothing is too early to count.
    BreathStreet early = Checks.on("f0 2 0 0;f0 2 0 0;f0 2 0 0;");
    early.hear(1, 29);
    C.due("the earliest count too", early.watch(), 0);
  }

  private static void see() {
    BreathStreet x = Checks.on("f0 2 0 0;");
    C.due("see(1, -1, 0)", x.see(1, -1, 0), Checks.UNKNOWN);
    C.due("see(0, -1, 0)", x.see(0, -1, 0), Checks.OUTSIDE);
    C.due("see(0, 10000, 0)", x.see(0, 10000, 0), Checks.OUTSIDE);
    C.due("see(0, 0, -1)", x.see(0, 0, -1), Checks.OUTSIDE);
    C.due("see(0, 0, 1000)", x.see(0, 0, 1000), Checks.OUTSIDE);
    C.due("see(0, 9999, 0)", x.see(0, 9999, 0), 1);
    for (int i = 2; i <= 12; i++) {
      C.due("see(0, 0, 999)", x.see(0, 0, 999), i);
    }
    C.due("see(0, 0, 0) when full", x.see(0, 0, 0), Checks.FULL);
    C.due("see(0, 0, 1000) when full", x.see(0, 0, 1000), Checks.OUTSIDE);
    C.due("told(10)", x.told(10), 12);
  }

  private static void rounds() {
    BreathStreet x = Checks.on("f10 7 2 3;f0 2 0 0;");
    C.due("nothing seen", x.rounds(0, -1), 77);
    C.due("the first", x.rounds(0, 0), 200);
    C.due("the second", x.rounds(0, 1), 201);
    C.due("the third", x.rounds(0, 2), 300);
    C.due("the last", x.rounds(0, 76), 1211);
    C.due("not so many", x.rounds(0, 77), Checks.NONE);
    C.due("not so many", x.rounds(0, -2), Checks.NONE);
    C.due("rounds(2, -1)", x.rounds(2, -1), Checks.UNKNOWN);
    C.due("rounds(-1, 0)", x.rounds(-1, 0), Checks.UNKNOWN);
    for (int b = 0; b < 8; b++) {
      x.see(0, b, x.height(0, b));
    }
    C.due("told by heights", x.rounds(0, -1), 1);
    C.due("told by heights", x.rounds(0, 0), 702);
    C.due("the other field", x.rounds(1, -1), 77);
    x.see(1, 5, 1);
    C.due("without a swing it is never 1", x.rounds(1, -1), 0);
    C.due("without a swing it is never 1", x.rounds(1, 0), Checks.NONE);
  }

  private static void cellars() {
    // Field 0 at 0, 5, 10, 5; field 1 at 7.
    BreathStreet x = Checks.on("f0 4 0 5;f7 2 0 0;");
    C.due("cellars(0, 40)", x.cellars(0, 40), 0);
    C.due("cellars(1, 1)", x.cellars(1, 1), 1);
    C.due("as high as v is dry", x.cellars(7, 1), 1);
    C.due("cellars(8, 1)", x.cellars(8, 1), 3);
    x.step(1);
    C.due("cellars(5, 1)", x.cellars(5, 1), 0);
    C.due("cellars(5, 3)", x.cellars(5, 3), 0);
    C.due("cellars(5, 4)", x.cellars(5, 4), 1);
    C.due("cellars(999, 40)", x.cellars(999, 40), 3);
    C.due("cellars(1000, 1)", x.cellars(1000, 1), Checks.OUTSIDE);
    C.due("cellars(-1, 1)", x.cellars(-1, 1), Checks.OUTSIDE);
    C.due("cellars(0, 0)", x.cellars(0, 0), Checks.OUTSIDE);
    C.due("cellars(0, 41)", x.cellars(0, 41), Checks.OUTSIDE);
    C.due("no fields", new BreathStreet().cellars(999, 1), 0);
  }

  private static void sluices() {
    // Wet below 5: fields 0, 2, 3, 4.
    BreathStreet x = Checks.on("f0 2 0 0;f9 2 0 0;f0 2 0 0;f0 2 0 0;f0 2 0 0;");
    C.due("how many", x.sluices(5, 1, 0), 3);
    C.due("which, the least", x.sluices(5, 1, 1), 1 + 2 + 8);
    C.due("none needed", x.sluices(0, 40, 0), 0);
    C.due("none needed", x.sluices(0, 40, 1), 0);
    C.due("all", x.sluices(10, 1, 0), 3);
    C.due("all", x.sluices(10, 1, 1), 1 + 2 + 8);
    C.due("sluices(5, 1, 2)", x.sluices(5, 1, 2), Checks.OUTSIDE);
    C.due("sluices(5, 1, -1)", x.sluices(5, 1, -1), Checks.OUTSIDE);
    C.due("sluices(5, 0, 0)", x.sluices(5, 0, 0), Checks.OUTSIDE);
    C.due("sluices(5, 41, 0)", x.sluices(5, 41, 0), Checks.OUTSIDE);
    C.due("sluices(1000, 1, 0)", x.sluices(1000, 1, 0), Checks.OUTSIDE);
    C.due("sluices(-1, 1, 0)", x.sluices(-1, 1, 0), Checks.OUTSIDE);
    BreathStreet one = Checks.on("f5 2 0 0;");
    C.due("one alone", one.sluices(6, 1, 0), Checks.NONE);
    C.due("one alone", one.sluices(6, 1, 1), Checks.NONE);
    C.due("one alone, dry", one.sluices(5, 1, 0), 0);
    C.due("no fields", new BreathStreet().sluices(999, 1, 1), 0);
    C.due("all eight", Checks.on("f0 2 0 0;".repeat(8)).sluices(1, 1, 1), 1 + 4 + 16 + 64);
    C.due("all seven", Checks.on("f0 2 0 0;".repeat(7)).sluices(1, 1, 1), 1 + 2 + 8 + 32);
  }

  private static void odds() {
    // Field 0 at 0, 9, 0, 9.
    BreathStreet x = Checks.on("f0 2 0 9;");
    C.due("never held", x.odds(0, 9, 1, 0), 1000000000);
    C.due("always held", x.odds(0, 9, 1, 100), 0);
    C.due("held once of two", x.odds(0, 9, 2, 50), 500000000);
    C.due("by 33", x.odds(0, 9, 1, 33), 670000000);
    // 1 of 100 five times: 10^9, 10^7, 10^5, 10^3, 10, and then a tenth is cut.
    C.due("six held, cut", x.odds(0, 9, 20, 100), 0);
    C.due("v = 0 is sure", x.odds(0, 0, 20, 37), 1000000000);
    C.due("v = 999 never", x.odds(0, 999, 20, 37), 0);
    x.step(1);
    C.due("from now", x.odds(0, 9, 1, 0), 0);
    C.due("odds(1, -1, 1, 0)", x.odds(1, -1, 1, 0), Checks.UNKNOWN);
    C.due("odds(0, -1, 1, 0)", x.odds(0, -1, 1, 0), Checks.OUTSIDE);
    C.due("odds(0, 1000, 1, 0)", x.odds(0, 1000, 1, 0), Checks.OUTSIDE);
    C.due("odds(0, 0, 0, 0)", x.odds(0, 0, 0, 0), Checks.OUTSIDE);
    C.due("odds(0, 0, 21, 0)", x.odds(0, 0, 21, 0), Checks.OUTSIDE);
    C.due("odds(0, 0, 1, -1)", x.odds(0, 0, 1, -1), Checks.OUTSIDE);
    C.due("odds(0, 0, 1, 101)", x.odds(0, 0, 1, 101), Checks.OUTSIDE);
    // Only what is held five times of five stands at the top now.
    BreathStreet top = Checks.on("f0 12 6 9;");
    C.due("five held", top.odds(0, 54, 5, 1), 0);
    C.due("four held", top.odds(0, 54, 4, 1), 10);
  }
}
