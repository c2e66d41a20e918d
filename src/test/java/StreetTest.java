/** Promises 6 to 9: field, height, house, seam. */
public final class StreetTest {
  private static final Checks C = new Checks();

  public static void main(String[] args) {
    fields();
    heights();
    houses();
    seams();
    C.finish();
  }

  private static void fields() {
    BreathStreet x = Checks.on("f10 4 3 5;f20 6 11 2;");
    int[] first = {10, 4, 3, 5, 15, 7};
    int[] second = {20, 6, 11, 2, 22, 0};
    for (int what = 0; what < 6; what++) {
      C.due("field(0, " + what + ")", x.field(0, what), first[what]);
      C.due("field(1, " + what + ")", x.field(1, what), second[what]);
    }
    x.hold(1);
    C.due("held height", x.field(0, 4), 15);
    x.step(3);
    C.due("height behind 3", x.field(0, 4), 20);
    C.due("lean behind 3", x.field(0, 5), 4);
    C.due("field(2, 9)", x.field(2, 9), Checks.UNKNOWN);
    C.due("field(-1, 0)", x.field(-1, 0), Checks.UNKNOWN);
    C.due("field(0, 6)", x.field(0, 6), Checks.OUTSIDE);
    C.due("field(0, -1)", x.field(0, -1), Checks.OUTSIDE);
  }

  private static void heights() {
    BreathStreet x = Checks.on("f10 5 11 9;");
    // 11 late by a round of 5 is late by 1.
    int[] due = {19, 28, 28, 19, 10, 19};
    for (int b = 0; b < due.length; b++) {
      C.due("height(0, " + b + ")", x.height(0, b), due[b]);
    }
    x.step(7);
    C.due("height(0, 0) later", x.height(0, 0), 19);
    C.due("height(0, 1000000)", x.height(0, 1000000), 19);
    C.due("height(0, 1000001)", x.height(0, 1000001), Checks.OUTSIDE);
    C.due("height(0, -1)", x.height(0, -1), Checks.OUTSIDE);
    C.due("height(1, -1)", x.height(1, -1), Checks.UNKNOWN);
    C.due("height(MIN, 0)", x.height(Integer.MIN_VALUE, 0), Checks.UNKNOWN);
    C.due("height(0, MAX)", x.height(0, Integer.MAX_VALUE), Checks.OUTSIDE);
  }

  private static void houses() {
    // Leans of gap 0: 20 less 0, 5, 10, 5; so 20, 15, 10, 15.
    BreathStreet x = Checks.on("f0 4 0 5;f20 2 0 0;f99 12 0 9;h0 14;h1 99;");
    C.due("house(0, 0)", x.house(0, 0), 0);
    C.due("house(0, 1)", x.house(0, 1), 14);
    C.due("house(0, 2)", x.house(0, 2), 20);
    C.due("house(1, 0)", x.house(1, 0), 1);
    C.due("house(1, 2)", x.house(1, 2), 133);
    x.step(2);
    C.due("needs do not hang on now", x.house(0, 2), 20);
    C.due("house(2, 0)", x.house(2, 0), Checks.UNKNOWN);
    C.due("house(-1, 7)", x.house(-1, 7), Checks.UNKNOWN);
    C.due("house(0, 3)", x.house(0, 3), Checks.OUTSIDE);
    C.due("house(0, -1)", x.house(0, -1), Checks.OUTSIDE);
    BreathStreet down = Checks.on("f20 2 0 0;f0 4 0 5;h0 0;");
    C.due("needs when it leans down", down.house(0, 2), 20);
  }

  private static void seams() {
    BreathStreet x = Checks.on("f0 2 0 0;f0 2 0 0;f0 2 0 0;s1 12 11 3;s0 3 11 0;");
    int[] first = {1, 12, 11, 3};
    for (int what = 0; what < 4; what++) {
      C.due("seam(0, " + what + ")", x.seam(0, what), first[what]);
    }
    C.due("seam(1, 2)", x.seam(1, 2), 11);
    C.due("seam(2, 0)", x.seam(2, 0), Checks.UNKNOWN);
    C.due("seam(-1, 9)", x.seam(-1, 9), Checks.UNKNOWN);
    C.due("seam(0, 4)", x.seam(0, 4), Checks.OUTSIDE);
    C.due("seam(0, -1)", x.seam(0, -1), Checks.OUTSIDE);
    // Open in steps that leave 11, 0, 1 over by 12: round its end.
    int[] open = {1, 1, 0, 0, 0, 0, 0, 0, 0, 0, 0, 1, 1, 1, 0};
    for (int t = 0; t < open.length; t++) {
      C.due("open in step " + t, x.told(13), open[t]);
      x.hold(1);
    }
    // 11 over by 3 is 2; two wide: 2 and 0.
    BreathStreet y = Checks.on("f0 2 0 0;f0 2 0 0;s0 3 11 2;s0 2 0 12;");
    int[] both = {3, 2, 3, 3, 2, 3};
    for (int t = 0; t < both.length; t++) {
      C.due("both open in step " + t, y.told(13), both[t]);
      y.step(1);
    }
  }
}
