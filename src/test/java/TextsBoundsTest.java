/** Promises 25 to 28, sentence by sentence, at their boundaries. */
public final class TextsBoundsTest {
  private static final String TYPE = "promise 25, type";
  private static final String CLEAR_TEXT = "promise 26, clearText";
  private static final String FAULT = "promise 27, fault";
  private static final String PLAY = "promise 28, play";

  public static void main(String[] args) {
    typeRange();
    typeLength();
    typeAtLimit();
    clearLength();
    clearEmpties();
    faultRange();
    faultNone();
    faultOfTheStateNow();
    playAll();
    playNone();
    playStays();
    playOneChange();
    playWithFault();
    Due.end();
  }

  private static FencedStandbys with(FencedStandbys x, String text) {
    Due.typeAll(x, text);
    return x;
  }

  // Promise 25

  private static void typeRange() {
    Due due = new Due(TYPE, "character: 32 to 126; INVALID_ARGUMENT if character is out of range");
    for (int character = 32; character <= 126; character++) {
      due.is("type(" + character + ")", new FencedStandbys().type(character), 1);
    }
    Refusal.beside(due, "type", 32, 126, Made::fresh, (x, character) -> x.type(character), Due.INVALID);
    Refusal.beside(due, "type", 32, 126, Made::busy, (x, character) -> x.type(character), Due.INVALID);
    for (int character : new int[] {0, 9, 10, 13, 31, 127, 128, 256 + 'o', 65536 + 'o', 65536 + ';'}) {
      Refusal.is(due, "type(" + character + ")", Made::busy, x -> x.type(character), Due.INVALID);
    }
  }

  private static void typeLength() {
    Due due = new Due(TYPE, "Appends a character to the text. Returns the length of the text");
    FencedStandbys x = new FencedStandbys();
    String text = "t1;t20;o0;";
    for (int i = 0; i < text.length(); i++) {
      due.is("type('" + text.charAt(i) + "')", x.type(text.charAt(i)), i + 1);
    }
    due.is("play() in the order in which it was typed", x.play(), 3);
    due.is("count(1)", x.count(1), Due.tick(21));
    due.is("type('x')", x.type('x'), 11);
    due.is("fault(0)", x.fault(0), 7);
    x.clearText();
    due.is("type('x') of an emptied text", x.type('x'), 1);
    due.is("fault(0)", x.fault(0), 0);
    due.is("fault(1): nothing of the old text is left", x.fault(1), 1);
  }

  private static void typeAtLimit() {
    Due due = new Due(TYPE, "LIMIT_REACHED if it has 60 characters");
    FencedStandbys x = new FencedStandbys();
    for (int length = 1; length <= 60; length++) {
      due.is("type('~')", x.type('~'), length);
    }
    due.is("type('~') at 60", x.type('~'), Due.LIMIT);
    due.is("type(' ') at 60", x.type(' '), Due.LIMIT);
    due.is("type(31) at 60", x.type(31), Due.INVALID);
    Refusal.is(due, "type(';') at 60", () -> with(Made.busy(), "t1;".repeat(19) + "t11"), y -> y.type(';'), Due.LIMIT);
    Refusal.is(due, "type('o') at 60", () -> with(Made.busy(), "t1;".repeat(20)), y -> y.type('o'), Due.LIMIT);
    x.clearText();
    due.is("type('~') of an emptied text", x.type('~'), 1);
  }

  // Promise 26

  private static void clearLength() {
    Due due = new Due(CLEAR_TEXT, "Empties the text. Returns the length it had");
    due.is("clearText() at first", new FencedStandbys().clearText(), 0);
    for (int length : new int[] {1, 2, 30, 59, 60}) {
      FencedStandbys x = Due.withText("t".repeat(length));
      due.is("clearText() of " + length, x.clearText(), length);
      due.is("clearText() again", x.clearText(), 0);
    }
    FencedStandbys full = Due.withText("t".repeat(60));
    due.is("type('t'), refused", full.type('t'), Due.LIMIT);
    due.is("clearText() then", full.clearText(), 60);
  }

  private static void clearEmpties() {
    Due due = new Due(CLEAR_TEXT, "Empties the text.");
    FencedStandbys x = with(Made.busy(), "o9;");
    String before = Look.atState(x);
    x.clearText();
    due.is("count(9)", x.count(9), 0);
    due.is("fault(0)", x.fault(0), Due.NONE);
    due.is("count(8): it is no change", x.count(8), 4);
    due.same("all that is seen but the text", Look.atState(x), before);
    x.type('t');
    x.type('1');
    due.is("fault(2): the old text's \";\" is not there", x.fault(2), 2);
    x.type(';');
    due.is("play()", x.play(), 1);
    due.is("count(1)", x.count(1), Due.tick(6));
  }

  // Promise 27

  private static void faultRange() {
    Due due = new Due(FAULT, "what: 0: its position; 1: its reason; 2: its cause; INVALID_ARGUMENT if what is out of range");
    FencedStandbys x = with(Made.busy(), "t9;o0;o1;");
    due.is("fault(0)", x.fault(0), 6);
    due.is("fault(1)", x.fault(1), 2);
    due.is("fault(2)", x.fault(2), Due.IMPOSSIBLE);
    FencedStandbys form = with(Made.busy(), "t9;o0;p1,2;");
    due.is("fault(0)", form.fault(0), 6);
    due.is("fault(1)", form.fault(1), 1);
    due.is("fault(2)", form.fault(2), 4);
    Refusal.beside(due, "fault", 0, 2, Made::busy, (y, what) -> y.fault(what), Due.INVALID);
    Refusal.beside(due, "fault of x", 0, 2, () -> Due.withText("x"), (y, what) -> y.fault(what), Due.INVALID);
  }

  private static void faultNone() {
    Due due = new Due(FAULT, "NOT_FOUND if the text has no fault (also if it is empty)");
    for (int what = 0; what <= 2; what++) {
      int of = what;
      Refusal.is(due, "fault(" + what + ") of no text", Made::fresh, x -> x.fault(of), Due.NONE);
      Refusal.is(due, "fault(" + what + ") of a text", Made::busy, x -> x.fault(of), Due.NONE);
      Refusal.is(due, "fault(" + what + ") of a full text", () -> Due.withText("t1;".repeat(20)), x -> x.fault(of), Due.NONE);
      Refusal.is(due, "fault(" + what + ") of an emptied text", () -> with(Due.withText("x"), ""), x -> x.fault(of),
          Due.NONE);
    }
  }

  private static void faultOfTheStateNow() {
    Due due = new Due(FAULT, "Tells about the fault of the text.");
    FencedStandbys x = Due.withText("c0;");
    due.is("fault(2) without a transaction", x.fault(2), Due.IMPOSSIBLE);
    x.open(0);
    due.is("fault(2) with one", x.fault(2), Due.NONE);
    for (int record = 1; record <= 100; record++) {
      x.put(0, 0, 0);
    }
    due.is("fault(2) at 100 records", x.fault(2), Due.LIMIT);
    x.undo();
    due.is("fault(2) at 99 records", x.fault(2), Due.NONE);
    x.promote(1);
    due.is("fault(2) behind a promotion", x.fault(2), Due.IMPOSSIBLE);
    due.is("count(0): it does nothing", x.count(0), 0);
    due.is("count(8)", x.count(8), 4);
  }

  // Promise 28

  private static void playAll() {
    Due due = new Due(PLAY, "Does all orders of the text. Returns how many there are in it");
    for (int orders = 1; orders <= 20; orders++) {
      FencedStandbys x = Due.withText("t1;".repeat(orders));
      due.is("play() of " + orders, x.play(), orders);
      due.is("count(1)", x.count(1), Due.tick(orders));
    }
    FencedStandbys each = Due.withText("o0;p0,5=50;c0;o1;a1;s1,20;t3;");
    FencedStandbys called = new FencedStandbys();
    called.open(0);
    called.put(0, 5, 50);
    called.commit(0);
    called.open(1);
    called.abort(1);
    called.ship(1, 20);
    called.tick(3);
    due.is("play() of 7", each.play(), 7);
    due.same("all that is seen, as by the calls", Look.atState(each), Look.atState(called));
    FencedStandbys full = with(Due.withPuts(99), "c0;");
    due.is("play() of the 100th record", full.play(), 1);
    due.is("count(0)", full.count(0), 100);
    due.is("play() again", full.play(), Due.IMPOSSIBLE);
  }

  private static void playNone() {
    Due due = new Due(PLAY, "They are one change, also if there are none.");
    FencedStandbys x = new FencedStandbys();
    due.is("play() of no text", x.play(), 0);
    due.is("count(8)", x.count(8), 1);
    due.is("play() of no text again", x.play(), 0);
    due.is("count(8)", x.count(8), 2);
    due.is("undo()", x.undo(), 1);
    FencedStandbys busy = with(Made.busy(), "");
    String before = Look.atState(busy);
    due.is("play() of an emptied text", busy.play(), 0);
    due.is("count(8)", busy.count(8), 4);
    due.same("all that is seen but the history", Look.atState(busy), before);
    busy.undo();
    due.same("all that is seen behind undo()", Look.atState(busy), before);
  }

  private static void playStays() {
    Due due = new Due(PLAY, "Does all orders of the text, which stays.");
    FencedStandbys x = Due.withText("t2;s0,1;");
    due.is("play()", x.play(), 2);
    due.is("count(9)", x.count(9), 8);
    due.is("play() again", x.play(), 2);
    due.is("count(1)", x.count(1), Due.tick(4));
    x.type('t');
    due.is("play() with a fault", x.play(), Due.IMPOSSIBLE);
    due.is("count(9) behind a refused one", x.count(9), 9);
    x.type('3');
    x.type(';');
    due.is("play()", x.play(), 3);
    due.is("count(1)", x.count(1), Due.tick(9));
    x.undo();
    due.is("count(9) behind undo()", x.count(9), 11);
  }

  private static void playOneChange() {
    Due due = new Due(PLAY, "They are one change");
    FencedStandbys x = with(Made.busy(), "t1;o0;p0,7=70;p0,8=80;c0;s0,2;t9;");
    x.undo();
    x.undo();
    String before = Look.atState(x);
    due.is("play()", x.play(), 7);
    due.is("count(8): one state more", x.count(8), 3);
    due.is("undo(): all of them", x.undo(), 2);
    due.same("all that is seen behind undo()", Look.atState(x), before);
    FencedStandbys four = Due.withText("t1;t1;t1;t1;t1;");
    for (int i = 0; i < 6; i++) {
      four.play();
    }
    due.is("count(1)", four.count(1), Due.tick(30));
    due.is("count(8)", four.count(8), 4);
    for (int left = 3; left >= 0; left--) {
      due.is("undo()", four.undo(), left);
      due.is("count(1)", four.count(1), Due.tick(10 + 5 * left));
    }
  }

  private static void playWithFault() {
    Due due = new Due(PLAY, "NOT_POSSIBLE if it has a fault");
    Refusal.is(due, "play() of x", () -> with(Made.busy(), "x"), x -> x.play(), Due.IMPOSSIBLE);
    Refusal.is(due, "play(): its last order", () -> with(Made.busy(), "t1;o0;p0,1=2;c0;c0;"), x -> x.play(), Due.IMPOSSIBLE);
    Refusal.is(due, "play(): its last character", () -> with(Made.busy(), "t1;o0;p0,1=2;c0"), x -> x.play(),
        Due.IMPOSSIBLE);
    Refusal.is(due, "play(): an argument", () -> with(Made.busy(), "t1;o0;p0,24=2;"), x -> x.play(), Due.IMPOSSIBLE);
    Refusal.is(due, "play(): the limit", () -> with(Made.full(), "p0,1=2;"), x -> x.play(), Due.IMPOSSIBLE);
    Refusal.is(due, "play(): one astray", () -> with(Made.withOneAstray(), "s1,1;s0,1;"), x -> x.play(), Due.IMPOSSIBLE);
    Refusal.is(due, "play(): ahead of 19 orders", () -> with(Made.busy(), "o3;" + "t9;".repeat(19)), x -> x.play(),
        Due.IMPOSSIBLE);
  }
}
