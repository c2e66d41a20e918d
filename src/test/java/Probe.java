/**
 * Looks whether a call has changed anything: two objects go the same way, one of them makes the call,
 * and both are asked all that they can tell, have all undone, go back to their images, go on.
 * Each way of asking has two new objects, so that none goes beyond 512 calls.
 */
final class Probe {
  /** Calls on an object. */
  interface Play {
    void on(BreathStreet x);
  }

  private static final String LETTERS_LEFT = "f1 2 0 0;f3 4 0 5;h0 ";

  private Probe() {
  }

  /** A street in the middle of its day: all is there, nothing is full; image 1 was not kept. */
  static void busy(BreathStreet x) {
    Checks.feed(x, Checks.LANE);
    x.street();
    x.seed(7);
    x.drift(9);
    x.slack(0, 33);
    x.keep(0);
    x.hold(2);
    x.seed(99);
    x.drift(5);
    x.step(3);
    x.slack(1, 2);
    x.hear(1, 4);
    x.hear(2, 3);
    x.see(0, 0, 5);
    x.see(0, 2, 11);
    x.write(0);
    x.write(0);
  }

  /** The same with a fault behind it and letters of a text that is not whole yet. */
  static void fed(BreathStreet x) {
    busy(x);
    Checks.feed(x, "f0 2 x");
    x.street();
    Checks.feed(x, LETTERS_LEFT);
  }

  /** Nothing more can be taken: letters, what was heard, seen, lines, steps to be undone. */
  static void full(BreathStreet x) {
    Checks.feed(x, Checks.LANE);
    x.street();
    x.keep(1);
    x.step(999);
    x.seed(4);
    x.drift(30);
    for (int i = 0; i < 12; i++) {
      x.hear(1, 4);
      x.see(0, 0, 5);
    }
    for (int i = 0; i < 30; i++) {
      x.write(0);
    }
    Checks.feed(x, LETTERS_LEFT);
    Checks.feed(x, " ".repeat(250 - LETTERS_LEFT.length()));
  }

  /** On a busy street, but for the text and its fault. */
  static void same(Checks c, String label, Play play) {
    alike(c, label, Probe::busy, play, Probe::told);
    alike(c, label, Probe::busy, play, Probe::undone);
    alike(c, label, Probe::busy, play, Probe::images);
  }

  /** In any state, the text and its fault too. */
  static void sameIn(Checks c, String label, Play state, Play play) {
    alike(c, label, state, play, Probe::told);
    alike(c, label, state, play, Probe::undone);
    alike(c, label, state, play, Probe::images);
    alike(c, label, state, play, Probe::text);
  }

  private interface Ask {
    String of(BreathStreet x);
  }

  private static void alike(Checks c, String label, Play state, Play play, Ask ask) {
    BreathStreet quiet = new BreathStreet();
    state.on(quiet);
    BreathStreet called = new BreathStreet();
    state.on(called);
    play.on(called);
    c.same(label, ask.of(called), ask.of(quiet));
  }

  private static String told(BreathStreet x) {
    StringBuilder s = new StringBuilder("told ");
    s.append(Checks.all(x));
    for (int f = 0; f < x.told(0); f++) {
      for (int what = 0; what < 5; what++) {
        s.append(x.field(f, what)).append(' ');
      }
      s.append(x.rounds(f, -1)).append(' ').append(x.rounds(f, 0)).append(' ');
    }
    for (int k = 0; k < x.told(2); k++) {
      for (int what = 0; what < 4; what++) {
        s.append(x.seam(k, what)).append(' ');
      }
    }
    s.append(x.began(-1)).append(' ').append(x.began(0)).append(' ').append(x.watch()).append(' ');
    s.append(x.judge(0)).append(' ').append(x.judge(1)).append(' ').append(x.write(2)).append(' ');
    return s.append(x.judge(0)).append(' ').append(x.judge(1)).append(' ').append(x.seed(3)).toString();
  }

  private static String undone(BreathStreet x) {
    StringBuilder s = new StringBuilder("undone ");
    for (int k = 0; k <= 40; k++) {
      s.append(x.undo(1)).append(' ').append(x.told(5 + k % 3)).append(' ');
    }
    return s.append(x.told(12)).toString();
  }

  private static String images(BreathStreet x) {
    StringBuilder s = new StringBuilder("images ");
    for (int i = 1; i >= 0; i--) {
      s.append(x.goBack(i)).append(' ').append(Checks.all(x)).append(x.seed(1)).append(' ');
    }
    return s.toString();
  }

  private static String text(BreathStreet x) {
    StringBuilder s = new StringBuilder("text ");
    s.append(x.fault()).append(' ').append(x.told(3)).append(' ');
    Checks.feed(x, "6;");
    s.append(x.told(3)).append(' ').append(x.street()).append(' ').append(x.fault()).append(' ');
    return s.append(Checks.all(x)).append(x.seed(0)).toString();
  }
}
