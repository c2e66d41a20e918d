/**
 * The boundary cases of Terms, part 1 (THE STREET, its NUMBERS, its FAULTS) and of promises 1 to 5:
 * each method is one sentence of the document.
 */
public final class TextEdgesTest {
  private static final Checks C = new Checks();
  private static final int NONE = Checks.NONE;
  private static final int OUTSIDE = Checks.OUTSIDE;
  private static final int FULL = Checks.FULL;
  private static final String FIELD = "f0 2 0 0;";
  private static final String TWO = FIELD + FIELD;
  private static final String THREE = TWO + FIELD;

  public static void main(String[] args) {
    newObjectHasNoFields();
    lettersAre0To255();
    textHas250LettersAtMost();
    fullTextIsReadToItsLastLetter();
    boundsOfFieldNumbers();
    boundsOfHouseNumbers();
    boundsOfSeamNumbers();
    eightFieldsAtMost();
    fourHousesAtMost();
    fourSeamsAtMost();
    barrelOnce();
    houseNeedsBothFieldsToldAhead();
    seamNeedsBothFieldsToldAhead();
    barrelNeedsItsFieldToldAhead();
    barrelUntoldIsOnFieldZero();
    numbersHaveOneToThreeFigures();
    blanksStandAnywhereButWithinNumbers();
    onlySign32IsABlank();
    numbersSideBySideNeedABlank();
    everyLetterWhereAWordStands();
    everyLetterWhereANumberStands();
    everyLetterWhereTheEndStands();
    endAtTheTextsLength();
    endWithinAClause();
    firstLetterWithAFaultCounts();
    ofFaultsAtOneLetterTheLeast();
    emptyTextHasNoFields();
    streetEmptiesTheText();
    nothingOfFormerTextsIsLeft();
    streetStartsAnew();
    streetForgetsNotes();
    streetForgetsImagesAndUndone();
    seedStaysOverStreet();
    faultLeavesAllAsItWas();
    faultOfTheLatestStreet();
    toldBounds();
    toldWithoutFields();
    roundOfTheStreet();
    C.finish();
  }

  private static Run fresh(String sentence) {
    return Run.fresh(C, sentence);
  }

  private static Run on(String sentence, String text) {
    return Run.on(C, sentence, text);
  }

  /** street() of a text, and fault(), on a new object. */
  private static Run text(String sentence, String text, int want, int fault) {
    return fresh(sentence + " '" + text + "'").feed(text).due("street", want).due("fault", fault)
        .due("told 0", Math.max(0, want)).due("told 3", 0);
  }

  private static void newObjectHasNoFields() {
    fresh("1: no FIELDS").due("told 0", 0).due("field 0 0", Checks.UNKNOWN).due("told 6", NONE).due("fault", NONE);
    fresh("1: each object is its own").feed("f").due("told 3", 1);
    fresh("1: each object is its own").due("told 3", 0);
  }

  private static void lettersAre0To255() {
    fresh("2 feed: a letter (0 .. 255)").due("feed 0", 1).due("feed 255", 2)
        .due("feed -1;feed 256;feed -2147483648;feed 2147483647;feed 65536", OUTSIDE).due("told 3", 2)
        .due("feed 32", 3);
  }

  private static void textHas250LettersAtMost() {
    Run r = fresh("2 feed: FULL (250)").due("told 3", 0).feed(" ".repeat(248)).due("told 3", 248);
    r.due("feed 32", 249).due("feed 32", 250).due("feed 32;feed 0;feed 255;feed 102", FULL).due("told 3", 250);
    r.due("feed -1;feed 256", OUTSIDE).due("street", 0).due("told 3", 0).due("feed 32", 1);
  }

  private static void fullTextIsReadToItsLastLetter() {
    String blanks = " ".repeat(241);
    text("1: 250 letters, all blank", " ".repeat(250), 0, NONE);
    text("1: 250 letters, a FIELD at its end", blanks + FIELD, 1, NONE);
    text("1: 250 letters, a fault in the last", blanks + "f0 2 0 0x", -11, 249);
    text("1: 250 letters, no end", blanks + " f0 2 0 0", -11, 250);
    text("1: 250 letters, a NUMBER too great at its end", blanks + "f0 2 0 10", -12, 248);
    Run r = fresh("1: what is fed when it is full is not read").feed(blanks + FIELD).feed("x");
    r.due("street", 1).due("fault", NONE);
  }

  /** A NUMBER between two texts: both ends of its bounds, and the first ones beyond. */
  private static void number(String ahead, int low, int high, String behind, String told) {
    int at = ahead.length();
    int fields = ahead.startsWith(TWO) ? 2 : 1;
    text("1: the least", ahead + low + behind, fields, NONE).due(told, low);
    text("1: the greatest", ahead + high + behind, fields, NONE).due(told, high);
    text("1: above the greatest", ahead + (high + 1) + behind, -12, at);
    text("1: far above the greatest", ahead + 999 + behind, -12, at);
    if (low > 0) {
      text("1: below the least", ahead + (low - 1) + behind, -12, at);
    }
    text("1: no NUMBER is below 0", ahead + "-1" + behind, -11, at);
    text("1: behind a blank, at its first", ahead + " " + (high + 1) + behind, -12, at + 1);
  }

  private static void boundsOfFieldNumbers() {
    number("f", 0, 99, " 2 0 0;", "field 0 0");
    number("f0 ", 2, 12, " 0 0;", "field 0 1");
    number("f0 2 ", 0, 11, " 0;", "field 0 2");
    number("f0 2 0 ", 0, 9, ";", "field 0 3");
  }

  private static void boundsOfHouseNumbers() {
    number(TWO + "h", 0, 0, " 5;", "house 0 0");
    number(TWO + "h0 ", 0, 99, ";", "house 0 1");
  }

  private static void boundsOfSeamNumbers() {
    number(TWO + "s", 0, 0, " 1 0 0;", "seam 0 0");
    number(TWO + "s0 ", 1, 12, " 0 0;", "seam 0 1");
    number(TWO + "s0 1 ", 0, 11, " 0;", "seam 0 2");
    number(TWO + "s0 1 0 ", 0, 12, ";", "seam 0 3");
  }

  private static void eightFieldsAtMost() {
    String eight = FIELD.repeat(7) + "f9 12 11 9;";
    text("1: 8 FIELDS", eight, 8, NONE).due("field 7 0", 9).due("field 8 0", Checks.UNKNOWN);
    text("1: a ninth 'f', at it", eight + FIELD, -13, 74);
    text("1: a ninth 'f', behind blanks", eight + "  f", -13, 76);
    text("1: a ninth 'f', whatever comes behind", eight + "f100 x", -13, 74);
    text("1: behind 8 FIELDS others may stand", eight + "h6 0;s6 1 0 0;b7;", 8, NONE);
    text("1: a ninth 'f' behind others", eight + "h6 0;" + FIELD, -13, 79);
  }

  private static void fourHousesAtMost() {
    String four = TWO + "h0 1;h0 2;h0 3;h0 4;";
    text("1: 4 HOUSES", four, 2, NONE).due("told 1", 4).due("house 3 1", 4).due("house 4 1", Checks.UNKNOWN);
    text("1: a fifth 'h', at it", four + "h0 5;", -13, 38);
    text("1: a fifth 'h', whatever comes behind", four + " h", -13, 39);
    text("1: behind 4 HOUSES others may stand", four + FIELD + "s1 1 0 0;b2;", 3, NONE);
  }

  private static void fourSeamsAtMost() {
    String four = TWO + "s0 1 0 1;s0 2 0 2;s0 3 0 3;s0 4 0 4;";
    text("1: 4 SEAMS", four, 2, NONE).due("told 2", 4).due("seam 3 1", 4).due("seam 4 1", Checks.UNKNOWN);
    text("1: a fifth 's', at it", four + "s0 5 0 5;", -13, 54);
    text("1: a fifth 's', whatever comes behind", four + " s;", -13, 55);
    text("1: behind 4 SEAMS others may stand", four + FIELD + "h1 0;b2;", 3, NONE);
  }

  private static void barrelOnce() {
    text("1: one 'b'", TWO + "b1;", 2, NONE).due("told 6", 1);
    text("1: a second 'b', at it", TWO + "b1;b1;", -13, 21);
    text("1: a second 'b', behind others", TWO + "b1;h0 0; b", -13, 27);
    text("1: a second 'b' behind FIELD 0", TWO + "b0;b1;", -13, 21);
  }

  private static void houseNeedsBothFieldsToldAhead() {
    text("1: 'h' without FIELDS", "h0 0;", -12, 1);
    text("1: 'h' with one FIELD", FIELD + "h0 0;", -12, 10);
    text("1: 'h' on the last but one", THREE + "h1 0;", 3, NONE).due("house 0 0", 1);
    text("1: 'h' on the last", THREE + "h2 0;", -12, 28);
    text("1: 'h' on one that there is not", THREE + "h3 0;", -12, 28);
    text("1: 'h' ahead of its FIELDS", "h0 0;" + TWO, -12, 1);
    text("1: 'h' ahead of the one to the east", FIELD + "h0 0;" + FIELD, -12, 10);
    text("1: 'h' behind its FIELDS, others come", TWO + "h0 0;" + FIELD + "h1 0;", 3, NONE);
  }

  private static void seamNeedsBothFieldsToldAhead() {
    text("1: 's' without FIELDS", "s0 1 0 0;", -12, 1);
    text("1: 's' with one FIELD", FIELD + "s0 1 0 0;", -12, 10);
    text("1: 's' on the last but one", THREE + "s1 1 0 0;", 3, NONE).due("seam 0 0", 1);
    text("1: 's' on the last", THREE + "s2 1 0 0;", -12, 28);
    text("1: 's' on one that there is not", THREE + "s3 1 0 0;", -12, 28);
    text("1: 's' ahead of its FIELDS", "s0 1 0 0;" + TWO, -12, 1);
    text("1: 's' ahead of the one to the east", FIELD + "s0 1 0 0;" + FIELD, -12, 10);
    text("1: 's' behind its FIELDS, others come", TWO + "s0 1 0 0;" + FIELD + "s1 1 0 0;", 3, NONE);
  }

  private static void barrelNeedsItsFieldToldAhead() {
    text("1: 'b' without FIELDS", "b0;", -12, 1);
    text("1: 'b' needs none to the east", FIELD + "b0;", 1, NONE).due("told 6", 0);
    text("1: 'b' on the last", THREE + "b2;", 3, NONE).due("told 6", 2);
    text("1: 'b' on one that there is not", THREE + "b3;", -12, 28);
    text("1: 'b' ahead of its FIELD", FIELD + "b1;" + FIELD, -12, 10);
  }

  private static void barrelUntoldIsOnFieldZero() {
    text("1: untold: FIELD 0", THREE, 3, NONE).due("told 6", 0);
    on("1: untold: FIELD 0, whatever was ahead", THREE + "b2;").feed(TWO).due("street", 2).due("told 6", 0);
    on("5: NONE without FIELDS, whatever was ahead", THREE + "b2;").due("street", 0).due("told 6", NONE);
  }

  private static void numbersHaveOneToThreeFigures() {
    text("1: one figure", "f7 2 0 0;", 1, NONE).due("field 0 0", 7);
    text("1: two figures", "f07 2 0 0;", 1, NONE).due("field 0 0", 7);
    text("1: three figures", "f007 012 011 009;", 1, NONE).due("field 0 0", 7).due("field 0 1", 12)
        .due("field 0 2", 11).due("field 0 3", 9);
    text("1: four figures, at the first", "f0007 2 0 0;", -12, 1);
    text("1: four figures, at the first", "f7 0002 0 0;", -12, 3);
    text("1: four figures, at the first", "f7 2 0000 0;", -12, 5);
    text("1: four figures, at the first", "f7 2 0 0000;", -12, 7);
    text("1: four figures", TWO + "h0000 0;", -12, 19);
    text("1: four figures", TWO + "h0 0000;", -12, 21);
    text("1: four figures", TWO + "s0 0001 0 0;", -12, 21);
    text("1: four figures", TWO + "b0000;", -12, 19);
    text("1: very many figures", "f" + "0".repeat(249), -12, 1);
    text("1: figures beyond all bounds", "f4294967297 2 0 0;", -12, 1);
    text("1: three figures", TWO + "h000 099;s000 012 011 012;b001;", 2, NONE).due("house 0 1", 99).due("told 6", 1);
  }

  private static void blanksStandAnywhereButWithinNumbers() {
    String wide = "  f  12  10  3  4  ;  f 1 2 0 0 ; h  0  15  ;  s  0  3  1  2  ;  b  1  ;  ";
    text("1: blanks anywhere", wide, 2, NONE).due("field 0 0", 12).due("field 0 1", 10).due("field 0 2", 3)
        .due("field 0 3", 4).due("house 0 1", 15).due("seam 0 1", 3).due("seam 0 3", 2).due("told 6", 1);
    text("1: no blank needed behind a word", "f1 2 3 4;f1 2 3 4;h0 1;s0 1 2 3;b1;", 2, NONE);
    text("1: a blank within a NUMBER makes two", "f1 2 2 0 0;", -11, 9);
    text("1: a blank within a NUMBER makes two", "f0 1 2 0 0;", -12, 3);
    text("1: a blank ahead of nothing", FIELD + " ", 1, NONE);
  }

  private static void onlySign32IsABlank() {
    int[] others = {0, 9, 10, 11, 12, 13, 31, 33, 95, 133, 160, 255};
    for (int sign : others) {
      String letter = String.valueOf((char) sign);
      text("1: blanks are 32 alone (" + sign + ")", letter, -11, 0);
      text("1: blanks are 32 alone (" + sign + ")", "f0" + letter + "2 0 0;", -11, 2);
      text("1: blanks are 32 alone (" + sign + ")", FIELD + letter, -11, 9);
    }
  }

  private static void numbersSideBySideNeedABlank() {
    text("1: two NUMBERS without a blank are one", "f02 0 0;", -12, 4);
    text("1: two NUMBERS without a blank are one", "f0 20 0;", -12, 3);
    text("1: two NUMBERS without a blank are one", "f0 2 00;", -11, 7);
    text("1: two NUMBERS without a blank are one", TWO + "h00;", -11, 21);
    text("1: two NUMBERS without a blank are one", TWO + "s0 1 00;", -11, 25);
  }

  private static void everyLetterWhereAWordStands() {
    for (int sign = 0; sign <= 255; sign++) {
      char c = (char) sign;
      boolean word = c == 'f' || c == 'h' || c == 's' || c == 'b';
      // Behind a word the NUMBER is missing; a blank is none, and the text ends well.
      int want = c == ' ' ? 2 : -11;
      text("1: a letter that is no word (" + sign + ")", TWO + c, want, c == ' ' ? NONE : word ? 19 : 18);
    }
  }

  private static void everyLetterWhereANumberStands() {
    for (int sign = 0; sign <= 255; sign++) {
      char c = (char) sign;
      boolean stands = c == ' ' || c >= '0' && c <= '9';
      text("1: no NUMBER (" + sign + ")", "f" + c, -11, stands ? 2 : 1);
      text("1: no NUMBER (" + sign + ")", TWO + "b " + c, c >= '2' && c <= '9' ? -12 : -11, c == ' ' || c == '0' || c == '1' ? 21 : 20);
    }
  }

  private static void everyLetterWhereTheEndStands() {
    for (int sign = 0; sign <= 255; sign++) {
      char c = (char) sign;
      int want = c == ';' ? 1 : -11;
      text("1: no ';' (" + sign + ")", "f0 2 0 0 " + c, want, c == ';' ? NONE : c == ' ' ? 10 : 9);
    }
  }

  private static void endAtTheTextsLength() {
    text("1: the end, at the text's length", "f", -11, 1);
    text("1: the end, at the text's length", "f ", -11, 2);
    text("1: the end, at the text's length", "f0 2 0 0", -11, 8);
    text("1: the end, at the text's length", "f0 2 0 0   ", -11, 11);
    text("1: the end, at the text's length", TWO + "h0 ", -11, 21);
    text("1: the end, at the text's length", TWO + "b", -11, 19);
  }

  private static void endWithinAClause() {
    String whole = "f10 9 11 9;f8 4 1 2;h0 45;s0 12 11 12;b1;";
    for (int length = 0; length <= whole.length(); length++) {
      String part = whole.substring(0, length);
      boolean ends = part.isEmpty() || part.endsWith(";");
      int fields = part.length() < 11 ? 0 : part.length() < 20 ? 1 : 2;
      text("1: cut off", part, ends ? fields : -11, ends ? NONE : length);
    }
    text("1: cut off within a NUMBER that is too small so", "f10 1", -12, 4);
  }

  private static void firstLetterWithAFaultCounts() {
    text("1: the first letter that has one", "f0 13 12 x", -12, 3);
    text("1: the first letter that has one", "f0 2 x 10;", -11, 5);
    text("1: the first letter that has one", FIELD + "b0;b0;x", -13, 12);
    text("1: the first letter that has one", FIELD + "b1;b0;x", -12, 10);
    text("1: a NUMBER's fault is at its first, ahead of what stands behind it", "f100x", -12, 1);
    text("1: a NUMBER's fault is at its first, ahead of the end", "f0 2 0 10", -12, 7);
    text("1: the end comes last", TWO + "h1", -12, 19);
  }

  private static void ofFaultsAtOneLetterTheLeast() {
    text("1: of these the least: a ninth 'f' where none can stand", FIELD.repeat(8) + "b f", -11, 74);
    text("1: of these the least: a fifth 'h' where none can stand", TWO + "h0 0;".repeat(4) + "b h", -11, 40);
    text("1: of these the least: a second 'b' where none can stand", TWO + "b0;s b", -11, 23);
    text("1: of these the least: a NUMBER of four figures where none can stand", "1234", -11, 0);
    text("1: of these the least: a NUMBER of four figures where none can stand", "f0 2 0 0 1234;", -11, 9);
    text("1: of these the least: a NUMBER of four figures where none can stand", TWO + "b0 1234;", -11, 21);
  }

  private static void emptyTextHasNoFields() {
    fresh("1: an empty text").due("street", 0).due("fault", NONE).due("told 0", 0).due("told 6", NONE).due("told 8", 1);
    on("1: an empty text takes the place of a street", Checks.LANE).due("street", 0)
        .due("told 0;told 1;told 2;told 13;told 14", 0).due("told 6", NONE).due("told 8", 1)
        .due("field 0 0;house 0 0;seam 0 0", Checks.UNKNOWN);
    text("1: a text of blanks alone", "   ", 0, NONE);
  }

  private static void streetEmptiesTheText() {
    fresh("3: it is empty then").feed(TWO).due("told 3", 18).due("street", 2).due("told 3", 0).due("street", 0);
    fresh("3: with a fault, too").feed("x").due("told 3", 1).due("street", -11).due("told 3", 0).due("street", 0);
  }

  private static void nothingOfFormerTextsIsLeft() {
    String rich = "f1 11 0 0;f2 7 0 0;f3 5 0 0;h0 5;h1 6;s0 1 0 0;s1 1 0 0;b1;";
    String bare = "f1 2 0 0;f2 2 0 0;";
    // The latest text, the one ahead of it and one with a fault may each have left something.
    fresh("3: nothing of the text ahead is left").feed(rich).go("street").feed(bare).due("street", 2).due("told 8", 2)
        .due("told 1;told 2;told 6", 0).due("field 2 0;house 0 0;seam 0 0", Checks.UNKNOWN).due("roll 2", 1);
    fresh("3: nothing of the text two ahead is left").feed(rich).go("street").feed(FIELD).go("street").feed(bare)
        .due("street", 2).due("told 8", 2).due("told 1;told 2;told 6", 0).due("roll 2", 1);
    fresh("3: nothing of a text with a fault is left").feed(rich + "x").due("street", -11).feed(bare).due("street", 2)
        .due("told 8", 2).due("told 1;told 2;told 6", 0).due("roll 2", 1);
    fresh("3: nothing of a text with a fault counts").feed(FIELD.repeat(8) + "x").due("street", -11).feed(FIELD.repeat(8))
        .due("street", 8);
    fresh("3: nothing of a text with a fault counts").feed(TWO + "b1;x").due("street", -11).feed(TWO + "b1;").due("street", 2);
  }

  private static void streetStartsAnew() {
    on("3: STEPS, BREATH, PULLED 0", "f0 2 0 0;f9 2 0 0;h0 3;").go("roll 2;step 5;hold 2;slack 0 7").due("told 4", 8)
        .due("told 5", 6).due("told 7", 9).due("house 0 1", 7).feed("f0 2 0 0;f9 2 0 0;h0 3;").due("street", 2)
        .due("told 4;told 5;told 6;told 7", 0).due("house 0 1", 3);
  }

  private static void streetForgetsNotes() {
    on("3: nothing HEARD, SEEN, no BOOK", TWO).go("hear 0 0;see 0 0 0;write 0").due("told 9;told 10;told 11", 1)
        .feed(TWO).due("street", 2).due("told 9;told 10;told 11;tear", 0).due("began -1", 62)
        .due("rounds 0 -1", 77).due("judge 0", NONE);
    fresh("3: no BOOK, though it was written without FIELDS").go("write 2").due("told 11", 1).due("street", 0).due("told 11", 0);
  }

  private static void streetForgetsImagesAndUndone() {
    on("3: IMAGES are gone", TWO).go("keep 0;keep 1").feed(TWO).due("street", 2).due("goBack 0;goBack 1", Checks.NOT);
    on("3: STEPS to be undone are gone", TWO).go("step 5").due("told 12", 5).feed(TWO).due("street", 2)
        .due("told 12", 0).due("undo 1", Checks.NOT);
  }

  private static void seedStaysOverStreet() {
    on("3: THE SEED stays", TWO).go("seed 77").feed(TWO).due("street", 2).due("seed 5", 77).due("street", 0).due("seed 6", 5)
        .feed("x").due("street", -11).due("seed 0", 6);
  }

  private static void faultLeavesAllAsItWas() {
    String[] faulty = {"x", "f0 2 0 100;", FIELD.repeat(9), TWO + "h0 9;b1;b0;", "f1 3 1 1;f2 5 2 2;h0 77;s0 2 1 1;b1; ;"};
    for (String text : faulty) {
      Probe.same(C, "3: all is as it was '" + text + "'", x -> {
        Checks.feed(x, text);
        C.due("street of '" + text + "' has a fault", x.street() <= -11 ? 1 : 0, 1);
      });
    }
  }

  private static void faultOfTheLatestStreet() {
    fresh("4: NONE at first").due("fault", NONE).feed("x").due("fault", NONE);
    fresh("4: of the latest street()").feed("  x").go("street").due("fault;fault", 2).feed("f0 2 0 0;x").due("fault", 2)
        .due("street", -11).due("fault", 9).go("step 3;keep 0;goBack 0;tear").due("fault", 9).feed(TWO)
        .due("street", 2).due("fault", NONE);
    fresh("4: an empty text has none").feed("x").go("street").due("street", 0).due("fault", NONE);
  }

  private static void toldBounds() {
    on("5 told: OUTSIDE", TWO).due("told -1;told 15;told -2147483648;told 2147483647", OUTSIDE)
        .row("told", 2, 0, 0, 0, 0, 0, 0, 0, 2, 0, 0, 0, 0, 0, 0);
    on("5 told: each what is its own", "f1 2 0 1;f9 3 0 0;f0 2 0 0;h0 1;h1 99;s0 5 0 5;s1 9 2 1;s1 2 0 1;")
        .go("roll 2;hold 2;step 3;hear 0 0;see 0 0 0;see 0 0 0;write 0;write 0;write 0").feed("ffff")
        .row("told", 3, 2, 3, 4, 6, 4, 1, 7, 6, 1, 2, 3, 6, 5, 1);
  }

  private static void toldWithoutFields() {
    fresh("5 told: NONE without FIELDS, ROUND 1").row("told", 0, 0, 0, 0, 0, 0, NONE, 0, 1, 0, 0, 0, 0, 0, 0);
  }

  private static void roundOfTheStreet() {
    fresh("2: ROUND is 1 without FIELDS").due("told 8", 1);
    for (int n = 2; n <= 12; n++) {
      on("2: ROUND of one FIELD", "f0 " + n + " 0 0;").due("told 8", n);
    }
    on("2: the least number", "f0 4 0 0;f0 6 0 0;").due("told 8", 12);
    on("2: the least number", "f0 12 0 0;f0 4 0 0;").due("told 8", 12);
    on("2: the greatest ROUND", "f0 12 0 0;f0 11 0 0;f0 10 0 0;f0 9 0 0;f0 8 0 0;f0 7 0 0;f0 6 0 0;f0 5 0 0;").due("told 8", 27720);
    on("2: of all FIELDS, the last one too", "f0 2 0 0;f0 2 0 0;f0 2 0 0;f0 2 0 0;f0 2 0 0;f0 2 0 0;f0 2 0 0;f0 11 0 0;").due("told 8", 22);
  }
}
