/** Promises 6 to 12. */
public final class StandbysTest {
  public static void main(String[] args) {
    ship();
    lose();
    resend();
    tick();
    tickWithDelay();
    promote();
    promoteOther();
    rebuild();
    set();
    Due.end();
  }

  /** The standby 0 is astray with its positions at 2, of 2 records; the standby 1 has applied both. */
  private static FencedStandbys withAstray() {
    FencedStandbys x = new FencedStandbys();
    Due.commitOne(x, 1, 10);
    x.ship(0, 20);
    x.ship(1, 20);
    x.tick(3);
    Due.commitOne(x, 1, 11);
    x.promote(0);
    return x;
  }

  private static void ship() {
    Due due = new Due("promise 6, ship");
    FencedStandbys x = Due.withPuts(45);
    due.is("ship(0, 1)", x.ship(0, 1), 1);
    due.is("ship(0, 20)", x.ship(0, 20), 20);
    due.is("ship(0, 20)", x.ship(0, 20), 20);
    due.is("ship(0, 20): fewer", x.ship(0, 20), 4);
    due.is("ship(0, 20): none", x.ship(0, 20), 0);
    due.is("count(8): also none is a change", x.count(8), 4);
    due.is("standbyOf(0, 0)", x.standbyOf(0, 0), 45);
    due.is("standbyOf(1, 0)", x.standbyOf(1, 0), 0);
    int[][] wrong = {{2, 1}, {-1, 1}, {0, 0}, {0, 21}, {0, -1}, {Integer.MAX_VALUE, 1}, {1, Integer.MIN_VALUE}};
    for (int[] w : wrong) {
      due.is("ship(" + w[0] + ", " + w[1] + ")", x.ship(w[0], w[1]), Due.INVALID);
    }
    FencedStandbys astray = withAstray();
    due.is("ship(0, 1) astray", astray.ship(0, 1), Due.IMPOSSIBLE);
    due.is("ship(0, 0) astray", astray.ship(0, 0), Due.INVALID);
    due.is("ship(1, 1)", astray.ship(1, 1), 0);
  }

  private static void lose() {
    Due due = new Due("promise 7, lose");
    FencedStandbys x = Due.withPuts(10);
    x.ship(0, 8);
    x.tick(2);
    due.is("standbyOf(0, 1)", x.standbyOf(0, 1), 4);
    due.is("lose(0, 4): applied", x.lose(0, 4), Due.IMPOSSIBLE);
    due.is("lose(0, 9): not shipped", x.lose(0, 9), Due.IMPOSSIBLE);
    due.is("lose(0, 11): no record", x.lose(0, 11), Due.IMPOSSIBLE);
    due.is("lose(0, max)", x.lose(0, Integer.MAX_VALUE), Due.IMPOSSIBLE);
    due.is("lose(0, 8)", x.lose(0, 8), 1);
    due.is("lose(0, 5)", x.lose(0, 5), 2);
    due.is("lose(0, 5) again", x.lose(0, 5), Due.IMPOSSIBLE);
    due.is("lose(0, 0)", x.lose(0, 0), Due.INVALID);
    due.is("lose(0, min)", x.lose(0, Integer.MIN_VALUE), Due.INVALID);
    due.is("lose(2, 6)", x.lose(2, 6), Due.INVALID);
    due.is("lose(-1, 6)", x.lose(-1, 6), Due.INVALID);
    due.is("lose(1, 6): not shipped", x.lose(1, 6), Due.IMPOSSIBLE);
    due.is("standbyOf(0, 3)", x.standbyOf(0, 3), 5);
    due.is("standbyOf(1, 2)", x.standbyOf(1, 2), 0);
    due.is("count(6)", x.count(6), 2);
    due.is("tick(9) stops at the gap", x.tick(9), 0);
    due.is("lose(0, 3) astray", withAstray().lose(0, 3), Due.IMPOSSIBLE);
    due.is("lose(0, 0) astray", withAstray().lose(0, 0), Due.INVALID);
    FencedStandbys all = Due.withPuts(100);
    for (int i = 0; i < 5; i++) {
      all.ship(1, 20);
    }
    for (int record = 100; record >= 1; record--) {
      due.is("lose(1, " + record + ")", all.lose(1, record), 101 - record);
    }
  }

  private static void resend() {
    Due due = new Due("promise 8, resend");
    FencedStandbys x = Due.withPuts(6);
    x.ship(0, 6);
    x.ship(1, 6);
    due.is("resend(0) of none", x.resend(0), 0);
    due.is("count(8)", x.count(8), 4);
    x.lose(0, 1);
    x.lose(0, 6);
    x.lose(1, 3);
    due.is("resend(0)", x.resend(0), 2);
    due.is("standbyOf(0, 2)", x.standbyOf(0, 2), 0);
    due.is("standbyOf(1, 2)", x.standbyOf(1, 2), 1);
    due.is("count(6): lost ones still count", x.count(6), 3);
    due.is("tick(9)", x.tick(9), 6 + 2);
    due.is("resend(2)", x.resend(2), Due.INVALID);
    due.is("resend(-1)", x.resend(-1), Due.INVALID);
    due.is("resend(0) astray", withAstray().resend(0), Due.IMPOSSIBLE);
  }

  private static void tick() {
    Due due = new Due("promise 9, tick");
    FencedStandbys x = Due.withPuts(12);
    x.ship(0, 12);
    x.ship(1, 5);
    due.is("tick(1): too fresh", x.tick(1), 0);
    due.is("tick(1): 4 of each", x.tick(1), 8);
    due.is("tick(1): 4 and the last 1", x.tick(1), 5);
    due.is("standbyOf(0, 1)", x.standbyOf(0, 1), 8);
    due.is("standbyOf(1, 1)", x.standbyOf(1, 1), 5);
    due.is("tick(99)", x.tick(99), 4);
    due.is("count(1)", x.count(1), Due.tick(102));
    due.is("count(7)", x.count(7), 17);
    due.is("tick(0)", x.tick(0), Due.INVALID);
    due.is("tick(-1)", x.tick(-1), Due.INVALID);
    due.is("tick(100)", x.tick(100), Due.INVALID);
    due.is("tick(max)", x.tick(Integer.MAX_VALUE), Due.INVALID);
    due.is("count(1) behind refused ticks", x.count(1), Due.tick(102));
    FencedStandbys astray = withAstray();
    astray.open(0);
    astray.put(0, 0, 0);
    astray.ship(1, 1);
    due.is("tick(9): the one that is astray applies none", astray.tick(9), 1);
  }

  private static void tickWithDelay() {
    Due due = new Due("promise 9, tick and the settings");
    FencedStandbys x = new FencedStandbys();
    x.set(0, 20);
    x.set(1, 0);
    x.open(0);
    x.put(0, 1, 1);
    x.tick(5);
    x.put(0, 1, 2);
    x.ship(1, 20);
    due.is("tick(1) with no delay", x.tick(1), 2);
    x.set(1, 3);
    x.put(0, 1, 3);
    x.tick(1);
    x.put(0, 1, 4);
    x.ship(1, 20);
    due.is("tick(1)", x.tick(1), 0);
    due.is("tick(1): the older one", x.tick(1), 1);
    due.is("tick(1): the newer one", x.tick(1), 1);
  }

  private static void promote() {
    Due due = new Due("promise 10, promote");
    FencedStandbys x = new FencedStandbys();
    Due.commitOne(x, 1, 10);
    Due.commitOne(x, 1, 11);
    x.ship(0, 3);
    x.tick(9);
    x.open(2);
    x.put(2, 2, 2);
    due.is("promote(0)", x.promote(0), 1);
    due.is("count(0)", x.count(0), 3);
    due.is("count(2)", x.count(2), 2);
    due.is("count(5)", x.count(5), 1);
    due.is("count(4)", x.count(4), 1);
    due.is("slotOf(2, 0): slots are empty", x.slotOf(2, 0), Due.NONE);
    due.is("primary(-1, 1)", x.primary(-1, 1), 10);
    due.is("standbyOf(0, 0)", x.standbyOf(0, 0), 3);
    due.is("standbyOf(0, 1)", x.standbyOf(0, 1), 3);
    due.is("standbyOf(0, 4): records are gone", x.standbyOf(0, 4), 1);
    due.is("recordOf(4, 0): it is gone", x.recordOf(4, 0), Due.NONE);
    due.is("promote(0) astray", x.promote(0), Due.IMPOSSIBLE);
    due.is("promote(2)", x.promote(2), Due.INVALID);
    due.is("promote(-1)", x.promote(-1), Due.INVALID);
    due.is("promote(1)", x.promote(1), 1);
    due.is("count(5): both", x.count(5), 2);
    due.is("count(2)", x.count(2), 3);
    FencedStandbys none = new FencedStandbys();
    Due.commitOne(none, 1, 10);
    none.rebuild(1);
    none.open(0);
    due.is("promote(1) with nothing gone", none.promote(1), 0);
    due.is("standbyOf(1, 4): not astray", none.standbyOf(1, 4), 0);
    due.is("slotOf(0, 0): empty all the same", none.slotOf(0, 0), Due.NONE);
    none.open(0);
    none.put(0, 0, 0);
    due.is("promote(1) with a put gone", none.promote(1), 0);
    due.is("standbyOf(1, 4): astray", none.standbyOf(1, 4), 1);
  }

  private static void promoteOther() {
    Due due = new Due("promise 10, the other standby");
    FencedStandbys x = Due.withPuts(10);
    x.ship(0, 9);
    x.ship(1, 8);
    x.lose(0, 5);
    x.lose(1, 3);
    x.lose(1, 5);
    x.lose(1, 7);
    x.tick(9);
    due.is("standbyOf(0, 1)", x.standbyOf(0, 1), 4);
    due.is("standbyOf(1, 1)", x.standbyOf(1, 1), 2);
    x.promote(0);
    due.is("standbyOf(0, 2): no gaps", x.standbyOf(0, 2), 0);
    due.is("standbyOf(1, 0): at most the log", x.standbyOf(1, 0), 4);
    due.is("standbyOf(1, 1)", x.standbyOf(1, 1), 2);
    due.is("standbyOf(1, 2): those behind the log are gone", x.standbyOf(1, 2), 1);
    due.is("standbyOf(1, 3)", x.standbyOf(1, 3), 3);
    due.is("standbyOf(1, 4)", x.standbyOf(1, 4), 0);
    x.promote(1);
    due.is("standbyOf(0, 0)", x.standbyOf(0, 0), 2);
    due.is("standbyOf(0, 1): it had applied more", x.standbyOf(0, 1), 2);
    due.is("standbyOf(0, 4)", x.standbyOf(0, 4), 1);
    FencedStandbys ahead = Due.withPuts(6);
    ahead.ship(0, 6);
    ahead.ship(1, 2);
    ahead.tick(9);
    ahead.promote(1);
    due.is("standbyOf(0, 4): it becomes astray", ahead.standbyOf(0, 4), 1);
    due.is("standbyOf(0, 0)", ahead.standbyOf(0, 0), 2);
    due.is("standbyOf(0, 1)", ahead.standbyOf(0, 1), 2);
    FencedStandbys at = Due.withPuts(6);
    at.ship(0, 2);
    at.ship(1, 4);
    at.lose(1, 2);
    at.lose(1, 3);
    at.tick(9);
    at.promote(0);
    due.is("standbyOf(1, 3): a gap at the end of the log stays", at.standbyOf(1, 3), 2);
    due.is("standbyOf(1, 2)", at.standbyOf(1, 2), 1);
    FencedStandbys alike = Due.withPuts(6);
    alike.ship(0, 2);
    alike.ship(1, 4);
    alike.lose(1, 3);
    alike.tick(9);
    alike.promote(0);
    due.is("standbyOf(1, 4): applied just as much", alike.standbyOf(1, 4), 0);
    due.is("standbyOf(1, 0)", alike.standbyOf(1, 0), 2);
    due.is("standbyOf(1, 2)", alike.standbyOf(1, 2), 0);
  }

  private static void rebuild() {
    Due due = new Due("promise 11, rebuild");
    FencedStandbys x = withAstray();
    Due.commitOne(x, 3, 30);
    due.is("rebuild(0)", x.rebuild(0), 4);
    due.is("standbyOf(0, 0)", x.standbyOf(0, 0), 4);
    due.is("standbyOf(0, 1)", x.standbyOf(0, 1), 4);
    due.is("standbyOf(0, 4)", x.standbyOf(0, 4), 0);
    due.is("read(0, 3, 4)", x.read(0, 3, 4), 30);
    due.is("count(7): a rebuild applies nothing", x.count(7), 4);
    due.is("rebuild(2)", x.rebuild(2), Due.INVALID);
    due.is("rebuild(-1)", x.rebuild(-1), Due.INVALID);
    FencedStandbys gaps = Due.withPuts(5);
    gaps.ship(1, 4);
    gaps.lose(1, 2);
    due.is("rebuild(1) with gaps", gaps.rebuild(1), 5);
    due.is("standbyOf(1, 2)", gaps.standbyOf(1, 2), 0);
    due.is("rebuild(0) of no records", new FencedStandbys().rebuild(0), 0);
    FencedStandbys first = Due.withPuts(2);
    first.ship(0, 2);
    first.lose(0, 1);
    due.is("lose(0, 1): a gap already", first.lose(0, 1), Due.IMPOSSIBLE);
    due.is("tick(9): the first record is a gap", first.tick(9), 0);
    first.rebuild(0);
    due.is("standbyOf(0, 2): the gap 1 is gone", first.standbyOf(0, 2), 0);
  }

  private static void set() {
    Due due = new Due("promise 12, set");
    FencedStandbys x = new FencedStandbys();
    due.is("set(0, 20)", x.set(0, 20), 4);
    due.is("set(0, 1)", x.set(0, 1), 20);
    due.is("set(0, 5)", x.set(0, 5), 1);
    due.is("set(1, 0)", x.set(1, 0), 2);
    due.is("set(1, 20)", x.set(1, 20), 0);
    due.is("set(1, 7)", x.set(1, 7), 20);
    int[][] wrong = {{0, 0}, {0, 21}, {1, -1}, {1, 21}, {2, 1}, {-1, 1}, {0, Integer.MIN_VALUE}, {Integer.MAX_VALUE, 1}};
    for (int[] w : wrong) {
      due.is("set(" + w[0] + ", " + w[1] + ")", x.set(w[0], w[1]), Due.INVALID);
    }
    due.is("count(20)", x.count(20), 5);
    due.is("count(21)", x.count(21), 7);
  }
}
