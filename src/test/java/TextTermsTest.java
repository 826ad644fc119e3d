import java.util.Arrays;

/** The document's terms "Texts", sentence by sentence, at their boundaries. */
public final class TextTermsTest {
  private static final String TEXTS = "terms, Texts";

  public static void main(String[] args) {
    emptyText();
    fullText();
    followedBySemicolon();
    ordersOfSlots();
    putOrder();
    shipOrder();
    tickOrder();
    noOtherOrder();
    digits();
    zeroAhead();
    positionOfFault();
    firstOfFaults();
    notOfTheForm();
    whenThoseAheadAreDone();
    breaksOff();
    breaksOffInNumbers();
    endsTooEarly();
    errorCode();
    Due.end();
  }

  private static void isFine(Due due, String text) {
    FencedStandbys x = Due.withText(text);
    for (int what = 0; what <= 2; what++) {
      due.is(text + " fault(" + what + ")", x.fault(what), Due.NONE);
    }
  }

  private static void isFault(Due due, String text, int position, int reason, int cause) {
    isFault(due, Due.withText(text), text, position, reason, cause);
  }

  private static void isFault(Due due, FencedStandbys x, String text, int position, int reason, int cause) {
    Due.typeAll(x, text);
    int[] counts = counts(x);
    due.is(text + " fault(0)", x.fault(0), position);
    due.is(text + " fault(1)", x.fault(1), reason);
    due.is(text + " fault(2)", x.fault(2), cause);
    due.is(text + " play()", x.play(), Due.IMPOSSIBLE);
    due.same(text + " nothing is changed", Arrays.toString(counts(x)), Arrays.toString(counts));
  }

  private static int[] counts(FencedStandbys x) {
    int[] counts = new int[10];
    for (int what = 0; what < counts.length; what++) {
      counts[what] = x.count(what);
    }
    return counts;
  }

  private static void emptyText() {
    Due due = new Due(TEXTS, "There is a text, initially empty");
    FencedStandbys x = new FencedStandbys();
    due.is("count(9)", x.count(9), 0);
    due.is("clearText()", x.clearText(), 0);
    due.is("fault(0)", x.fault(0), Due.NONE);
    due.is("play()", x.play(), 0);
    due.is("type('o')", x.type('o'), 1);
    due.is("fault(0)", x.fault(0), 0);
    x.clearText();
    due.is("fault(0), emptied", x.fault(0), Due.NONE);
    due.is("play(), emptied", x.play(), 0);
  }

  private static void fullText() {
    Due due = new Due(TEXTS, "a text of at most 60 characters");
    FencedStandbys x = Due.withText("t1;".repeat(19) + "t2");
    due.is("count(9)", x.count(9), 59);
    due.is("fault(0)", x.fault(0), 57);
    due.is("fault(2)", x.fault(2), 2);
    due.is("type(';')", x.type(';'), 60);
    due.is("type(';') at 60", x.type(';'), Due.LIMIT);
    due.is("count(9)", x.count(9), 60);
    due.is("fault(0)", x.fault(0), Due.NONE);
    due.is("play()", x.play(), 20);
    due.is("count(1)", x.count(1), Due.tick(21));
    isFault(due, "t1;".repeat(19) + "o0,", 57, 1, 2);
    isFault(due, "t1;".repeat(19) + "o00", 57, 1, 3);
    isFault(due, "t1;".repeat(19) + "t0;", 57, 2, Due.INVALID);
    isFault(due, "t1;".repeat(18) + "o00;;;", 58, 1, 0);
    isFault(due, "p000,000=000;o".repeat(3) + "o".repeat(18), 0, 2, Due.IMPOSSIBLE);
    isFault(due, "o".repeat(60), 0, 1, 1);
    FencedStandbys cleared = Due.withText("o".repeat(60));
    due.is("clearText() of 60", cleared.clearText(), 60);
    due.is("type('o') then", cleared.type('o'), 1);
  }

  private static void followedBySemicolon() {
    Due due = new Due(TEXTS, "orders, each followed by \";\"");
    isFine(due, "o0;");
    isFine(due, "o0;c0;");
    isFault(due, "o0", 0, 1, 2);
    isFault(due, "o0c0;", 0, 1, 2);
    isFault(due, "o0;c0", 3, 1, 2);
    isFault(due, "o0,c0;", 0, 1, 2);
    isFault(due, "o0;;", 3, 1, 0);
    isFault(due, ";o0;", 0, 1, 0);
    isFault(due, "o0 ;", 0, 1, 2);
    isFault(due, "o0; c0;", 3, 1, 0);
    isFault(due, "o0:", 0, 1, 2);
  }

  private static void ordersOfSlots() {
    Due due = new Due(TEXTS, "\"o\", \"c\" or \"a\" and a slot (open, commit, abort)");
    FencedStandbys x = Due.withText("o0;o1;o2;c0;a1;c2;");
    due.is("play()", x.play(), 6);
    due.is("count(3)", x.count(3), 3);
    int[] kinds = {1, 2, 1};
    for (int record = 1; record <= 3; record++) {
      due.is("recordOf(.., 0)", x.recordOf(record, 0), kinds[record - 1]);
      due.is("recordOf(.., 1)", x.recordOf(record, 1), record);
    }
    for (char order : new char[] {'o', 'c', 'a'}) {
      isFault(due, order + "3;", 0, 2, Due.INVALID);
      isFault(due, order + "999;", 0, 2, Due.INVALID);
      isFault(due, order + "-1;", 0, 1, 1);
      isFault(due, order + ";", 0, 1, 1);
      isFault(due, order + "0,0;", 0, 1, 2);
    }
    isFault(due, "o0;o0;", 3, 2, Due.IMPOSSIBLE);
    isFault(due, "c0;", 0, 2, Due.IMPOSSIBLE);
    isFault(due, "a2;", 0, 2, Due.IMPOSSIBLE);
    isFault(due, "o0;c0;a0;", 6, 2, Due.IMPOSSIBLE);
  }

  private static void putOrder() {
    Due due = new Due(TEXTS, "\"p\" a slot, \",\", a key, \"=\", a value (put)");
    FencedStandbys x = Due.withText("o2;p2,0=0;p2,23=999;p2,5=7;");
    due.is("play()", x.play(), 4);
    int[][] want = {{0, 1, 0, 0}, {0, 1, 23, 999}, {0, 1, 5, 7}};
    for (int record = 1; record <= 3; record++) {
      for (int what = 0; what <= 3; what++) {
        due.is("recordOf(" + record + ", " + what + ")", x.recordOf(record, what), want[record - 1][what]);
      }
    }
    isFault(due, "o0;p0,24=0;", 3, 2, Due.INVALID);
    isFault(due, "o0;p3,0=0;", 3, 2, Due.INVALID);
    isFault(due, "p0,0=0;", 0, 2, Due.IMPOSSIBLE);
    isFault(due, "o0;p1,0=0;", 3, 2, Due.IMPOSSIBLE);
    isFault(due, "o0;p0=0,0;", 3, 1, 2);
    isFault(due, "o0;p0,0,0;", 3, 1, 4);
    isFault(due, "o0;p0,0=0=0;", 3, 1, 6);
    isFault(due, "o0;p0,0;", 3, 1, 4);
    isFault(due, "o0;p0,=0;", 3, 1, 3);
    isFault(due, "o0;p,0=0;", 3, 1, 1);
    isFault(due, "o0;p0,0=;", 3, 1, 5);
    isFault(due, "o0;p0,0=1000;", 3, 1, 8);
  }

  private static void shipOrder() {
    Due due = new Due(TEXTS, "\"s\" a standby, \",\", a number of records (ship)");
    FencedStandbys x = Due.withPuts(50);
    Due.typeAll(x, "s0,1;s0,20;s1,3;");
    due.is("play()", x.play(), 3);
    due.is("standbyOf(0, 0)", x.standbyOf(0, 0), 21);
    due.is("standbyOf(1, 0)", x.standbyOf(1, 0), 3);
    due.is("play() of no records", Due.withText("s1,20;").play(), 1);
    isFault(due, "s0,0;", 0, 2, Due.INVALID);
    isFault(due, "s0,21;", 0, 2, Due.INVALID);
    isFault(due, "s2,1;", 0, 2, Due.INVALID);
    isFault(due, "s0;", 0, 1, 2);
    isFault(due, "s,1;", 0, 1, 1);
    isFault(due, "s0=1;", 0, 1, 2);
    isFault(due, "s0,1,1;", 0, 1, 4);
    isFault(due, Made.withOneAstray(), "s1,1;s0,1;", 5, 2, Due.IMPOSSIBLE);
    isFault(due, Made.withOneAstray(), "s0,0;", 0, 2, Due.INVALID);
  }

  private static void tickOrder() {
    Due due = new Due(TEXTS, "or \"t\" a number of ticks");
    FencedStandbys x = Due.withText("t1;t99;");
    due.is("play()", x.play(), 2);
    due.is("count(1)", x.count(1), Due.tick(100));
    isFault(due, "t0;", 0, 2, Due.INVALID);
    isFault(due, "t100;", 0, 2, Due.INVALID);
    isFault(due, "t999;", 0, 2, Due.INVALID);
    isFault(due, "t;", 0, 1, 1);
    isFault(due, "t1,1;", 0, 1, 2);
    isFault(due, "t+1;", 0, 1, 1);
  }

  private static void noOtherOrder() {
    Due due = new Due(TEXTS, "orders: \"o\", \"c\" or \"a\", \"p\", \"s\", or \"t\", and no others");
    for (int character = 32; character <= 126; character++) {
      boolean begins = "ocapst".indexOf(character) >= 0;
      isFault(due, (char) character + "", 0, 1, begins ? 1 : 0);
      isFault(due, "t1;" + (char) character + ";", 3, 1, begins ? 1 : 0);
    }
  }

  private static void digits() {
    Due due = new Due(TEXTS, "numbers of 1 to 3 digits");
    isFine(due, "t9;");
    isFine(due, "t99;");
    isFine(due, "t099;");
    isFault(due, "t;", 0, 1, 1);
    isFault(due, "t0099;", 0, 1, 4);
    isFault(due, "t1000;", 0, 1, 4);
    isFault(due, "o;", 0, 1, 1);
    isFault(due, "o0000;", 0, 1, 4);
    isFault(due, "c0000;", 0, 1, 4);
    isFault(due, "a0000;", 0, 1, 4);
    isFault(due, "o0;p0000,0=0;", 3, 1, 4);
    isFault(due, "o0;p0,0000=0;", 3, 1, 6);
    isFault(due, "o0;p0,0=0000;", 3, 1, 8);
    isFault(due, "s0000,1;", 0, 1, 4);
    isFault(due, "s0,0001;", 0, 1, 6);
    isFault(due, "s0,4294967297;", 0, 1, 6);
    for (char beside : new char[] {'/', ':'}) {
      isFault(due, "t" + beside + ";", 0, 1, 1);
      isFault(due, "t1" + beside + ";", 0, 1, 2);
    }
    for (int digit = 1; digit <= 9; digit++) {
      FencedStandbys x = Due.withText("t" + digit + ";");
      x.play();
      due.is("count(1) behind t" + digit, x.count(1), Due.tick(digit));
    }
  }

  private static void zeroAhead() {
    Due due = new Due(TEXTS, "0 ahead allowed");
    FencedStandbys x = Due.withText("o01;o002;p001,023=099;p02,00=000;s000,002;t002;");
    due.is("play()", x.play(), 6);
    due.is("recordOf(1, 2)", x.recordOf(1, 2), 23);
    due.is("recordOf(1, 3)", x.recordOf(1, 3), 99);
    due.is("recordOf(2, 1)", x.recordOf(2, 1), 2);
    due.is("standbyOf(0, 1)", x.standbyOf(0, 1), 2);
    due.is("count(1)", x.count(1), Due.tick(2));
    isFault(due, "t000;", 0, 2, Due.INVALID);
    isFault(due, "s0,00;", 0, 2, Due.INVALID);
  }

  private static void positionOfFault() {
    Due due = new Due(TEXTS, "The fault of the text is the position, from 0, of the first character of the first order"
        + " that is not possible");
    isFault(due, "c0;", 0, 2, Due.IMPOSSIBLE);
    isFault(due, "o0;o1;o2;c3;", 9, 2, Due.INVALID);
    isFault(due, "o000;p000,000=000;p000,000=00x;", 18, 1, 11);
    isFault(due, "t1;".repeat(19) + "t", 57, 1, 1);
    isFault(due, "t12;".repeat(14) + "c0;", 56, 2, Due.IMPOSSIBLE);
    isFault(due, "t1;".repeat(19) + "c0;", 57, 2, Due.IMPOSSIBLE);
    isFault(due, "t001;".repeat(11) + "t01;~", 59, 1, 0);
  }

  private static void firstOfFaults() {
    Due due = new Due(TEXTS, "the first order that is not possible, of several");
    isFault(due, "c0;x", 0, 2, Due.IMPOSSIBLE);
    isFault(due, "xc0;", 0, 1, 0);
    isFault(due, "o0;o0;o3;", 3, 2, Due.IMPOSSIBLE);
    isFault(due, "o0;o3;o0;", 3, 2, Due.INVALID);
    isFault(due, "t1;t0;t", 3, 2, Due.INVALID);
  }

  private static void notOfTheForm() {
    Due due = new Due(TEXTS, "its reason is 1 if it is not of this form, its \";\" included");
    isFault(due, "c0", 0, 1, 2);
    isFault(due, "o9", 0, 1, 2);
    isFault(due, "o9.", 0, 1, 2);
    isFault(due, "s9,99", 0, 1, 5);
    isFault(due, "t0", 0, 1, 2);
    isFault(due, "p9,99=999", 0, 1, 9);
    isFault(due, "p9,99=999x;", 0, 1, 9);
    isFault(due, "p9,99=999;", 0, 2, Due.INVALID);
  }

  private static void whenThoseAheadAreDone() {
    Due due = new Due(TEXTS, "and otherwise 2, when those ahead of it are done");
    isFine(due, "o0;c0;o0;a0;o0;p0,1=1;");
    isFault(due, "o0;c0;c0;", 6, 2, Due.IMPOSSIBLE);
    isFault(due, "o1;a1;p1,1=1;", 6, 2, Due.IMPOSSIBLE);
    isFault(due, Due.withPuts(99), "p0,0=0;c0;", 7, 2, Due.LIMIT);
    isFault(due, Due.withPuts(99), "c0;c0;", 3, 2, Due.IMPOSSIBLE);
    isFault(due, Due.withPuts(99), "c0;o0;a0;", 6, 2, Due.LIMIT);
    FencedStandbys open = Due.withPuts(0);
    isFault(due, open, "o0;", 0, 2, Due.IMPOSSIBLE);
    due.is("c0;o0; where it is open", playOf(open, "c0;o0;"), 2);
  }

  private static int playOf(FencedStandbys x, String text) {
    Due.typeAll(x, text);
    return x.play();
  }

  private static void breaksOff() {
    Due due = new Due(TEXTS, "its cause is with the reason 1 at which character of the order, from 0, it breaks off");
    String whole = "p0,00=000;";
    for (int at = 0; at < whole.length(); at++) {
      isFault(due, "t1;" + whole.substring(0, at) + "x" + whole.substring(at + 1), 3, 1, at);
    }
    String ship = "s0,12;";
    for (int at = 0; at < ship.length(); at++) {
      isFault(due, ship.substring(0, at) + "!" + ship.substring(at + 1), 0, 1, at);
    }
    isFault(due, "o0;oo;", 3, 1, 1);
    isFault(due, "t1t1;", 0, 1, 2);
  }

  private static void breaksOffInNumbers() {
    Due due = new Due(TEXTS, "it breaks off, where a number has more than 3 digits or none");
    isFault(due, "t1234567;", 0, 1, 4);
    isFault(due, "o0;p0,1=0123;", 3, 1, 8);
    isFault(due, "o0;p0,1=,;", 3, 1, 5);
    isFault(due, "s,;", 0, 1, 1);
    isFault(due, "s0,;", 0, 1, 3);
  }

  private static void endsTooEarly() {
    Due due = new Due(TEXTS, "(of one that the text ends too early it is its length)");
    String[] wholes = {"o002;", "c002;", "a002;", "p001,023=999;", "s001,020;", "t099;"};
    for (String whole : wholes) {
      for (int length = 1; length < whole.length(); length++) {
        isFault(due, whole.substring(0, length), 0, 1, length);
        isFault(due, "t1;" + whole.substring(0, length), 3, 1, length);
      }
    }
    isFault(due, "t001;".repeat(9) + "t1;" + "p001,023=999", 48, 1, 12);
    isFine(due, "");
  }

  private static void errorCode() {
    Due due = new Due(TEXTS, "and with the reason 2 the error code that the call returns for it");
    isFault(due, Made.full(), "p0,0=0;", 0, 2, Due.LIMIT);
    isFault(due, Made.full(), "c1;", 0, 2, Due.LIMIT);
    isFault(due, Made.full(), "a1;", 0, 2, Due.LIMIT);
    isFault(due, Made.full(), "p2,0=0;", 0, 2, Due.IMPOSSIBLE);
    isFault(due, Made.full(), "p2,24=0;", 0, 2, Due.INVALID);
    isFault(due, Made.full(), "c2;", 0, 2, Due.IMPOSSIBLE);
    isFault(due, Made.full(), "c3;", 0, 2, Due.INVALID);
    isFault(due, Made.full(), "o0;", 0, 2, Due.IMPOSSIBLE);
    isFault(due, Made.withBothAstray(), "s1,20;", 0, 2, Due.IMPOSSIBLE);
    isFault(due, Made.withBothAstray(), "s1,21;", 0, 2, Due.INVALID);
    isFault(due, Made.withBothAstray(), "t00;", 0, 2, Due.INVALID);
  }
}
