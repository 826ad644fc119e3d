/** Promises 20 to 24. */
public final class WouldBeTest {
  public static void main(String[] args) {
    waits();
    wouldLose();
    rateFor();
    count();
    countOfTheFirstRecord();
    undo();
    undoOfEachChange();
    undoOfLog();
    undoOfFour();
    Due.end();
  }

  private static void waits() {
    Due due = new Due("promise 20, waits");
    FencedStandbys x = Due.withPuts(100);
    for (int i = 0; i < 5; i++) {
      x.ship(0, 20);
    }
    x.ship(1, 20);
    due.is("waits(0, 0)", x.waits(0, 0), 0);
    due.is("waits(0, 1)", x.waits(0, 1), 2);
    due.is("waits(0, 4)", x.waits(0, 4), 2);
    due.is("waits(0, 5)", x.waits(0, 5), 3);
    due.is("waits(1, 20)", x.waits(1, 20), 6);
    due.is("waits(1, 21): not received", x.waits(1, 21), Due.NONE);
    x.set(0, 1);
    x.set(1, 20);
    due.is("waits(0, 100): as long as can be", x.waits(0, 100), 119);
    x.lose(0, 50);
    due.is("waits(0, 49)", x.waits(0, 49), 68);
    due.is("waits(0, 50): a gap", x.waits(0, 50), Due.NONE);
    due.is("waits(0, 101)", x.waits(0, 101), Due.INVALID);
    due.is("waits(0, -1)", x.waits(0, -1), Due.INVALID);
    due.is("waits(2, 0)", x.waits(2, 0), Due.INVALID);
    due.is("waits(-1, 0)", x.waits(-1, 0), Due.INVALID);
    due.is("count(1): no tick passes", x.count(1), Due.tick(0));
    due.is("standbyOf(0, 1): nothing is applied", x.standbyOf(0, 1), 0);
    x.tick(68);
    due.is("standbyOf(0, 1) just then", x.standbyOf(0, 1), 49);
    x.promote(1);
    due.is("waits(0, 0) astray", x.waits(0, 0), Due.IMPOSSIBLE);
    due.is("waits(0, 100) astray, no position", x.waits(0, 100), Due.INVALID);
    FencedStandbys none = new FencedStandbys();
    none.set(1, 0);
    none.open(0);
    none.put(0, 0, 0);
    none.ship(0, 1);
    due.is("waits(0, 1) without delay", none.waits(0, 1), 1);
  }

  private static void wouldLose() {
    Due due = new Due("promise 21, wouldLose");
    FencedStandbys x = new FencedStandbys();
    Due.commitOne(x, 1, 10);
    Due.commitOne(x, 1, 11);
    x.ship(0, 20);
    due.is("wouldLose(0): received is not applied", x.wouldLose(0), 2);
    x.tick(2);
    due.is("wouldLose(0)", x.wouldLose(0), 0);
    due.is("wouldLose(1)", x.wouldLose(1), 2);
    x.open(0);
    x.put(0, 1, 1);
    x.abort(0);
    due.is("wouldLose(0): only commits count", x.wouldLose(0), 0);
    due.is("wouldLose(2)", x.wouldLose(2), Due.INVALID);
    due.is("wouldLose(-1)", x.wouldLose(-1), Due.INVALID);
    due.is("count(5): nothing is lost", x.count(5), 0);
    x.promote(1);
    due.is("wouldLose(1) astray", x.wouldLose(1), Due.IMPOSSIBLE);
  }

  private static void rateFor() {
    Due due = new Due("promise 22, rateFor");
    FencedStandbys x = Due.withPuts(100);
    for (int i = 0; i < 5; i++) {
      x.ship(0, 20);
    }
    x.ship(1, 20);
    x.set(1, 1);
    due.is("rateFor(0, 99)", x.rateFor(0, 99), 2);
    due.is("rateFor(0, 50)", x.rateFor(0, 50), 2);
    due.is("rateFor(0, 49)", x.rateFor(0, 49), 3);
    due.is("rateFor(0, 5)", x.rateFor(0, 5), 20);
    due.is("rateFor(0, 4)", x.rateFor(0, 4), Due.NONE);
    due.is("rateFor(1, 1)", x.rateFor(1, 1), 20);
    due.is("rateFor(1, 20)", x.rateFor(1, 20), 1);
    x.set(1, 3);
    due.is("rateFor(1, 2): too fresh", x.rateFor(1, 2), Due.NONE);
    due.is("rateFor(1, 3)", x.rateFor(1, 3), 20);
    x.lose(1, 6);
    due.is("rateFor(1, 3): up to the gap", x.rateFor(1, 3), 5);
    x.lose(1, 1);
    due.is("rateFor(1, 1): nothing to apply", x.rateFor(1, 1), 1);
    due.is("rateFor(1, 0)", x.rateFor(1, 0), Due.INVALID);
    due.is("rateFor(1, 100)", x.rateFor(1, 100), Due.INVALID);
    due.is("rateFor(2, 1)", x.rateFor(2, 1), Due.INVALID);
    due.is("rateFor(-1, 1)", x.rateFor(-1, 1), Due.INVALID);
    due.is("count(20): the setting stays", x.count(20), 4);
    x.promote(1);
    due.is("rateFor(1, 1) astray", x.rateFor(1, 1), Due.IMPOSSIBLE);
    due.is("rateFor(1, 0) astray", x.rateFor(1, 0), Due.INVALID);
  }

  private static void count() {
    Due due = new Due("promise 23, count");
    FencedStandbys x = new FencedStandbys();
    Due.commitOne(x, 1, 10);
    Due.commitOne(x, 1, 11);
    x.open(0);
    x.open(1);
    x.put(0, 1, 12);
    x.abort(0);
    x.ship(0, 5);
    x.lose(0, 4);
    x.lose(0, 5);
    x.tick(7);
    x.rebuild(1);
    x.set(0, 6);
    x.set(1, 9);
    Due.typeAll(x, "o2;x");
    int[] want = {6, Due.tick(7), 1, 4, 2, 0, 2, 3, 4, 4};
    for (int what = 0; what < want.length; what++) {
      due.is("count(" + what + ")", x.count(what), want[what]);
    }
    due.is("count(20)", x.count(20), 6);
    due.is("count(21)", x.count(21), 9);
    for (int what : new int[] {-1, 10, 11, 19, 22, Integer.MAX_VALUE, Integer.MIN_VALUE}) {
      due.is("count(" + what + ")", x.count(what), Due.INVALID);
    }
    x.promote(0);
    int[] then = {3, Due.tick(7), 2, 4, 1, 1, 2, 3, 4, 4};
    for (int what = 0; what < then.length; what++) {
      due.is("count(" + what + ") promoted", x.count(what), then[what]);
    }
  }

  private static void countOfTheFirstRecord() {
    Due due = new Due("promise 23, count of the first record");
    FencedStandbys x = new FencedStandbys();
    x.open(0);
    x.commit(0);
    due.is("count(4)", x.count(4), 1);
    due.is("wouldLose(0)", x.wouldLose(0), 1);
    due.is("standbyOf(0, 6)", x.standbyOf(0, 6), 1);
    due.is("promote(0)", x.promote(0), 1);
  }

  private static void undo() {
    Due due = new Due("promise 24, undo");
    FencedStandbys x = new FencedStandbys();
    due.is("undo() of none", x.undo(), Due.IMPOSSIBLE);
    x.open(0);
    x.open(0);
    x.put(0, 24, 0);
    due.is("count(8): errors are no changes", x.count(8), 1);
    x.put(0, 1, 10);
    x.commit(0);
    x.ship(0, 2);
    due.is("count(8)", x.count(8), 4);
    x.lose(0, 2);
    due.is("count(8): the oldest one is dropped", x.count(8), 4);
    due.is("undo() of lose", x.undo(), 3);
    due.is("standbyOf(0, 2)", x.standbyOf(0, 2), 0);
    due.is("count(6)", x.count(6), 0);
    due.is("undo() of ship", x.undo(), 2);
    due.is("standbyOf(0, 0)", x.standbyOf(0, 0), 0);
    due.is("undo() of commit", x.undo(), 1);
    due.is("slotOf(0, 1)", x.slotOf(0, 1), 1);
    due.is("count(0)", x.count(0), 1);
    due.is("undo() of put", x.undo(), 0);
    due.is("slotOf(0, 1)", x.slotOf(0, 1), 0);
    due.is("undo(): open was dropped", x.undo(), Due.IMPOSSIBLE);
    due.is("slotOf(0, 0)", x.slotOf(0, 0), 1);
  }

  /** Does one change of each kind behind others, and looks at everything before it and behind undo. */
  private static void undoOfEachChange() {
    Due due = new Due("promise 24, undo of each change");
    String before = Look.atState(behindManyChanges());
    for (int kind = 0; kind < 13; kind++) {
      FencedStandbys seen = behindManyChanges();
      due.is("change " + kind + " is possible", change(seen, kind) >= 0 ? 1 : 0, 1);
      due.is("count(8) behind change " + kind, seen.count(8), 4);
      due.is("change " + kind + " is to be seen", Look.atState(seen).equals(before) ? 1 : 0, 0);
      FencedStandbys x = behindManyChanges();
      change(x, kind);
      due.is("undo() of change " + kind, x.undo(), 3);
      due.same("all that is seen behind undo() of change " + kind, Look.atState(x), before);
      due.is("count(9) behind change " + kind, x.count(9), 6);
    }
  }

  /** Many changes, as a used place of the history holds an older state, which undo must not bring back. */
  private static FencedStandbys behindManyChanges() {
    FencedStandbys x = new FencedStandbys();
    for (int ahead = 0; ahead < 7; ahead++) {
      x.open(0);
      x.put(0, ahead, 10 + ahead);
      x.commit(0);
      x.ship(0, 20);
      x.ship(1, 20);
      x.tick(1 + ahead % 3);
    }
    x.open(1);
    x.put(1, 4, 5);
    x.ship(0, 20);
    x.lose(0, 15);
    x.set(0, 3);
    Due.typeAll(x, "t3;o2;");
    return x;
  }

  private static int change(FencedStandbys x, int kind) {
    switch (kind) {
      case 0: return x.open(0);
      case 1: return x.put(1, 4, 6);
      case 2: return x.commit(1);
      case 3: return x.abort(1);
      case 4: return x.ship(1, 1);
      case 5: return x.lose(0, 14);
      case 6: return x.resend(0);
      case 7: return x.tick(2);
      case 8: return x.promote(0);
      case 9: return x.rebuild(1);
      case 10: return x.set(1, 9);
      case 11: return x.set(0, 9);
      default: return x.play();
    }
  }

  /** Records that are gone by a promotion and written over come back with all that they tell. */
  private static void undoOfLog() {
    Due due = new Due("promise 24, undo of records");
    FencedStandbys x = new FencedStandbys();
    Due.commitOne(x, 1, 10);
    x.tick(5);
    x.open(2);
    x.put(2, 3, 30);
    String before = Look.atState(x);
    x.promote(0);
    x.tick(9);
    x.open(1);
    x.put(1, 7, 70);
    x.undo();
    x.undo();
    x.undo();
    due.is("undo() of promote", x.undo(), 0);
    due.same("all that is seen", Look.atState(x), before);
    due.is("undo()", x.undo(), Due.IMPOSSIBLE);
    FencedStandbys full = Due.withPuts(100);
    for (int i = 0; i < 5; i++) {
      full.ship(0, 20);
    }
    full.lose(0, 100);
    full.lose(0, 1);
    full.resend(0);
    due.is("undo() of resend", full.undo(), 3);
    due.is("standbyOf(0, 2)", full.standbyOf(0, 2), 2);
    due.is("standbyOf(0, 3)", full.standbyOf(0, 3), 1);
    full.undo();
    due.is("standbyOf(0, 3): the gap 100 alone", full.standbyOf(0, 3), 100);
    full.undo();
    due.is("standbyOf(0, 3)", full.standbyOf(0, 3), Due.NONE);
  }

  private static void undoOfFour() {
    Due due = new Due("promise 24, undo four times");
    for (int undos = 1; undos <= 5; undos++) {
      FencedStandbys x = withTicks(20);
      for (int back = 1; back <= undos; back++) {
        due.is("undo() number " + back, x.undo(), back <= 4 ? 4 - back : Due.IMPOSSIBLE);
      }
      due.same("all that is seen behind " + undos, Look.atState(x), Look.atState(withTicks(20 - Math.min(4, undos))));
    }
  }

  private static FencedStandbys withTicks(int ticks) {
    FencedStandbys x = Due.withPuts(3);
    for (int i = 0; i < ticks; i++) {
      x.tick(1);
      x.tick(0);
    }
    return x;
  }
}
