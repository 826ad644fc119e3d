/** Promises 25 to 28. */
public final class TextsTest {
  public static void main(String[] args) {
    type();
    clearText();
    faultOfForm();
    faultOfCall();
    play();
    playIsOneChange();
    Due.end();
  }

  private static void type() {
    Due due = new Due("promise 25, type");
    FencedStandbys x = new FencedStandbys();
    due.is("type(31)", x.type(31), Due.INVALID);
    due.is("type(127)", x.type(127), Due.INVALID);
    due.is("type(-1)", x.type(-1), Due.INVALID);
    due.is("type(65536 + 'o')", x.type(65536 + 'o'), Due.INVALID);
    due.is("type(32)", x.type(32), 1);
    due.is("type(126)", x.type(126), 2);
    for (int length = 3; length <= 60; length++) {
      due.is("type('o')", x.type('o'), length);
    }
    due.is("type('o') at 60", x.type('o'), Due.LIMIT);
    due.is("type(31) at 60", x.type(31), Due.INVALID);
    due.is("count(9)", x.count(9), 60);
    due.is("count(8): no change", x.count(8), 0);
  }

  private static void clearText() {
    Due due = new Due("promise 26, clearText");
    FencedStandbys x = Due.withText("o0;");
    due.is("clearText()", x.clearText(), 3);
    due.is("clearText() again", x.clearText(), 0);
    due.is("count(9)", x.count(9), 0);
    due.is("count(8): no change", x.count(8), 0);
    Due.typeAll(x, "t1;");
    due.is("play() of the new text", x.play(), 1);
    due.is("count(1)", x.count(1), Due.tick(1));
    due.is("count(3)", x.count(3), 0);
  }

  private static void faultIs(Due due, String text, int position, int reason, int cause) {
    FencedStandbys x = Due.withText(text);
    due.is(text + ": fault(0)", x.fault(0), position);
    due.is(text + ": fault(1)", x.fault(1), reason);
    due.is(text + ": fault(2)", x.fault(2), cause);
    due.is(text + ": play()", x.play(), Due.IMPOSSIBLE);
    due.is(text + ": count(8)", x.count(8), 0);
    due.is(text + ": count(1)", x.count(1), Due.tick(0));
    due.is(text + ": count(3)", x.count(3), 0);
  }

  private static void faultOfForm() {
    Due due = new Due("promise 27, fault with the reason 1");
    String[] texts = {"x", " o0;", ";", "O0;", "o", "o0", "o;", "o0,", "o000", "o0000;", "c", "ca;", "a1 ;", "t", "t12",
        "t1234;", "p", "p0", "p0;", "p0,", "p0,;", "p0,1", "p0,1,", "p0,1=", "p0,1=;", "p0,1=2", "p0,1=2,", "p0,1=2345;",
        "p0,1234=5;", "p1234,1=5;", "s", "s0", "s0;", "s0,", "s0,,", "s0,1", "s0,1=", "s0,1234;", "t-1;", "r0;", "~"};
    int[] causes = {0, 0, 0, 0, 1, 2, 1, 2, 4, 4, 1, 1, 2, 1, 3,
        4, 1, 2, 2, 3, 3, 4, 4, 5, 5, 6, 6, 8,
        6, 4, 1, 2, 2, 3, 3, 4, 4, 6, 1, 0, 0};
    for (int i = 0; i < texts.length; i++) {
      faultIs(due, texts[i], 0, 1, causes[i]);
      faultIs(due, "t1;o2;" + texts[i], 6, 1, causes[i]);
    }
    due.is("a text of no fault", Due.withText("o0;").fault(1), Due.NONE);
    due.is("an empty text", new FencedStandbys().fault(2), Due.NONE);
    for (int what : new int[] {-1, 3, Integer.MAX_VALUE, Integer.MIN_VALUE}) {
      due.is("fault(" + what + ")", Due.withText("x").fault(what), Due.INVALID);
      due.is("fault(" + what + ") of no fault", new FencedStandbys().fault(what), Due.INVALID);
    }
  }

  private static void faultOfCall() {
    Due due = new Due("promise 27, fault with the reason 2");
    faultIs(due, "o3;", 0, 2, Due.INVALID);
    faultIs(due, "o0;o0;", 3, 2, Due.IMPOSSIBLE);
    faultIs(due, "o0;c0;c0;x", 6, 2, Due.IMPOSSIBLE);
    faultIs(due, "a0;", 0, 2, Due.IMPOSSIBLE);
    faultIs(due, "a3;", 0, 2, Due.INVALID);
    faultIs(due, "p0,24=0;", 0, 2, Due.INVALID);
    faultIs(due, "p2,23=999;", 0, 2, Due.IMPOSSIBLE);
    faultIs(due, "s2,1;", 0, 2, Due.INVALID);
    faultIs(due, "s0,21;", 0, 2, Due.INVALID);
    faultIs(due, "s0,0;", 0, 2, Due.INVALID);
    faultIs(due, "t0;", 0, 2, Due.INVALID);
    faultIs(due, "t100;", 0, 2, Due.INVALID);
    faultIs(due, "t99;t1;t00;", 7, 2, Due.INVALID);
    FencedStandbys full = Due.withPuts(98);
    Due.typeAll(full, "p0,1=1;t1;p0,1=1;c0;");
    due.is("fault(0) with 98 records", full.fault(0), 17);
    due.is("fault(2)", full.fault(2), Due.LIMIT);
    due.is("count(0): nothing was done", full.count(0), 98);
    FencedStandbys x = Due.withText("s0,1;");
    x.open(0);
    x.put(0, 0, 0);
    x.promote(0);
    due.is("fault(2) astray", x.fault(2), Due.IMPOSSIBLE);
    x.rebuild(0);
    due.is("fault(2) rebuilt: it tells of the state now", x.fault(2), Due.NONE);
    due.is("the text ends behind 60", Due.withText("t1;".repeat(20)).fault(0), Due.NONE);
    due.is("too early at 60", Due.withText("t01;" + "t1;".repeat(18) + "t9").fault(2), 2);
  }

  private static void play() {
    Due due = new Due("promise 28, play");
    FencedStandbys x = Due.withText("o0;o01;p000,023=999;p1,3=7;c0;a1;s0,20;s1,002;t02;");
    due.is("play()", x.play(), 9);
    due.is("count(0)", x.count(0), 4);
    due.is("count(3)", x.count(3), 2);
    due.is("count(4)", x.count(4), 1);
    due.is("count(1)", x.count(1), Due.tick(2));
    due.is("count(7)", x.count(7), 6);
    due.is("recordOf(4, 0)", x.recordOf(4, 0), 2);
    due.is("read(0, 23, 4)", x.read(0, 23, 4), 999);
    due.is("standbyOf(1, 1)", x.standbyOf(1, 1), 2);
    due.is("count(9): the text stays", x.count(9), 50);
    due.is("play() again", x.play(), 9);
    due.is("count(3)", x.count(3), 4);
    FencedStandbys one = Due.withText("t1;".repeat(20));
    due.is("play() of 20 orders", one.play(), 20);
    due.is("count(1)", one.count(1), Due.tick(20));
  }

  private static void playIsOneChange() {
    Due due = new Due("promise 28, play is one change");
    FencedStandbys x = new FencedStandbys();
    due.is("play() of no orders", x.play(), 0);
    due.is("count(8): it is a change all the same", x.count(8), 1);
    Due.typeAll(x, "o0;p0,1=2;c0;t5;");
    due.is("play()", x.play(), 4);
    due.is("count(8)", x.count(8), 2);
    due.is("undo()", x.undo(), 1);
    due.is("count(0)", x.count(0), 0);
    due.is("count(1)", x.count(1), Due.tick(0));
    due.is("count(3)", x.count(3), 0);
    due.is("count(9)", x.count(9), 16);
    Due.typeAll(x, "o0;o0;");
    due.is("play() with a fault", x.play(), Due.IMPOSSIBLE);
    due.is("count(8)", x.count(8), 1);
    due.is("count(3)", x.count(3), 0);
    due.is("undo()", x.undo(), 0);
    due.is("undo()", x.undo(), Due.IMPOSSIBLE);
  }
}
