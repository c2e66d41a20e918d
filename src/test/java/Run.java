/**
 * One object, called in words ("least 0 1 9 -1"), for tests of single sentences of the document. It
 * complains beyond 512 calls, for what later calls answer is free.
 */
final class Run {
  private static final int MOST_CALLS = 512;

  private final Checks checks;
  private final String sentence;
  private final BreathStreet x = new BreathStreet();
  private int calls = 0;

  private Run(Checks checks, String sentence) {
    this.checks = checks;
    this.sentence = sentence;
  }

  /** A new object, nothing told. */
  static Run fresh(Checks checks, String sentence) {
    return new Run(checks, sentence);
  }

  /** A new object on the street of a text without a fault. */
  static Run on(Checks checks, String sentence, String text) {
    Run run = new Run(checks, sentence).feed(text);
    if (run.call("street") < 0) {
      throw new IllegalStateException("the test's own text has a fault: " + text);
    }
    return run;
  }

  /** Letter by letter, whatever feed answers. */
  Run feed(String text) {
    for (int i = 0; i < text.length(); i++) {
      count();
      x.feed(text.charAt(i));
    }
    return this;
  }

  int call(String words) {
    count();
    String[] parts = words.trim().split(" ");
    int[] a = new int[parts.length - 1];
    for (int k = 0; k < a.length; k++) {
      a[k] = Integer.parseInt(parts[k + 1]);
    }
    return Calls.call(x, parts[0], a);
  }

  /** Several calls, parted by ';', whatever they answer. */
  Run go(String callsInWords) {
    if (!callsInWords.isEmpty()) {
      for (String words : callsInWords.split(";")) {
        call(words);
      }
    }
    return this;
  }

  /** Several calls, parted by ';', that all answer this. */
  Run due(String callsInWords, long want) {
    for (String words : callsInWords.split(";")) {
      checks.due(sentence + ": " + words.trim(), call(words), want);
    }
    return this;
  }

  /** A call for each number from 0 on, put behind the words: their answers in a row. */
  Run row(String words, long... wants) {
    for (int k = 0; k < wants.length; k++) {
      due(words + " " + k, wants[k]);
    }
    return this;
  }

  private void count() {
    calls++;
    if (calls > MOST_CALLS) {
      throw new IllegalStateException("the test goes beyond " + MOST_CALLS + " calls: " + sentence);
    }
  }
}
