/** The document's terms "Promotion" and "Settings", sentence by sentence, at their boundaries. */
public final class PromotionTermsTest {
  private static final String PROMOTION = "terms, Promotion";
  private static final String SETTINGS = "terms, Settings";

  public static void main(String[] args) {
    notWhenAstray();
    recordsAreGone();
    commitsAreLost();
    slotsAreEmpty();
    timeline();
    oldPrimary();
    oldPrimaryAstray();
    otherReceived();
    otherGaps();
    otherApplied();
    otherAlreadyAstray();
    rebuilt();
    rebuiltWithoutGaps();
    rebuiltNotAstray();
    rangeOfRate();
    rangeOfDelay();
    firstSettings();
    Due.end();
  }

  /** So many puts, of which the standbys 0 and 1 have applied so many, at most 20. */
  private static FencedStandbys applied(int records, int first, int second) {
    FencedStandbys x = new FencedStandbys();
    x.set(0, 20);
    x.open(0);
    for (int i = 0; i < records; i++) {
      x.put(0, i % 24, i);
    }
    if (first > 0) {
      x.ship(0, first);
    }
    if (second > 0) {
      x.ship(1, second);
    }
    x.tick(2);
    return x;
  }

  // Promotion

  private static void notWhenAstray() {
    Due due = new Due(PROMOTION, "When a standby that is not astray is promoted");
    Refusal.is(due, "promote(0)", Made::withOneAstray, x -> x.promote(0), Due.IMPOSSIBLE);
    Refusal.is(due, "promote(0)", Made::withBothAstray, x -> x.promote(0), Due.IMPOSSIBLE);
    Refusal.is(due, "promote(1)", Made::withBothAstray, x -> x.promote(1), Due.IMPOSSIBLE);
    due.is("promote(1) of the other", Made.withOneAstray().promote(1), 0);
    FencedStandbys x = Made.withBothAstray();
    x.rebuild(0);
    due.is("promote(0) rebuilt", x.promote(0), 0);
    due.is("promote(0) of no records", new FencedStandbys().promote(0), 0);
    due.is("promote(1) of no records", new FencedStandbys().promote(1), 0);
  }

  private static void recordsAreGone() {
    Due due = new Due(PROMOTION, "records of the log behind its applied position are gone");
    for (int at = 0; at <= 5; at++) {
      FencedStandbys x = applied(5, 0, at);
      x.promote(1);
      due.is("count(0), applied " + at, x.count(0), at);
      due.is("recordOf(.., 3) of the last one, applied " + at, at == 0 ? 0 : x.recordOf(at, 3), at == 0 ? 0 : at - 1);
      due.is("recordOf(.., 0) behind it, applied " + at, x.recordOf(at + 1, 0), Due.NONE);
      due.is("read(0, 0, ..) behind it", x.read(0, 0, at + 1), Due.INVALID);
    }
    FencedStandbys received = Due.withPuts(5);
    received.ship(0, 5);
    received.promote(0);
    due.is("count(0): received is not applied", received.count(0), 0);
    FencedStandbys full = Due.withPuts(100);
    full.rebuild(0);
    full.promote(0);
    due.is("count(0) with 100 applied", full.count(0), 100);
    full.promote(1);
    due.is("count(0) with none applied", full.count(0), 0);
  }

  private static void commitsAreLost() {
    Due due = new Due(PROMOTION, "(their commits are lost)");
    int[] lost = {3, 3, 2, 2, 2, 1, 1, 0};
    for (int at = 0; at <= 7; at++) {
      FencedStandbys x = new FencedStandbys();
      x.set(0, 1);
      x.set(1, 0);
      Due.commitOne(x, 1, 11);
      x.open(1);
      x.put(1, 1, 12);
      x.abort(1);
      x.open(1);
      x.commit(1);
      Due.commitOne(x, 1, 13);
      x.ship(0, 7);
      for (int i = 0; i < at; i++) {
        x.tick(1);
      }
      due.is("promote(0) at " + at, x.promote(0), lost[at]);
      due.is("count(5) at " + at, x.count(5), lost[at]);
      due.is("count(4) at " + at, x.count(4), 3 - lost[at]);
      due.is("primary(-1, 1) at " + at, x.primary(-1, 1), at < 2 ? 0 : at < 7 ? 11 : 13);
      due.is("fence(1) at " + at, x.fence(1), at < 2 ? Due.NONE : at < 7 ? 2 : 7);
    }
  }

  private static void slotsAreEmpty() {
    Due due = new Due(PROMOTION, "all slots are empty");
    FencedStandbys x = new FencedStandbys();
    for (int slot = 0; slot < 3; slot++) {
      x.open(slot);
      x.put(slot, slot, 1);
    }
    x.rebuild(1);
    x.promote(1);
    for (int slot = 0; slot < 3; slot++) {
      due.is("slotOf(" + slot + ", 0)", x.slotOf(slot, 0), Due.NONE);
      due.is("commit(" + slot + ")", x.commit(slot), Due.IMPOSSIBLE);
      due.is("primary(" + slot + ", 0)", x.primary(slot, 0), Due.IMPOSSIBLE);
    }
    due.is("count(0): their records stay, if applied", x.count(0), 3);
    due.is("open(0)", x.open(0), 4);
    due.is("slotOf(0, 1): puts of its own alone", x.slotOf(0, 1), 0);
    FencedStandbys empty = new FencedStandbys();
    empty.promote(0);
    due.is("slotOf(2, 0) that was empty", empty.slotOf(2, 0), Due.NONE);
  }

  private static void timeline() {
    Due due = new Due(PROMOTION, "and the timeline becomes greater by 1 (it is 1 at first)");
    FencedStandbys x = Due.withPuts(1);
    due.is("count(2) at first", x.count(2), 1);
    x.promote(0);
    due.is("count(2)", x.count(2), 2);
    due.is("promote(0), refused", x.promote(0), Due.IMPOSSIBLE);
    due.is("count(2)", x.count(2), 2);
    x.promote(1);
    due.is("count(2): with nothing gone", x.count(2), 3);
    x.promote(1);
    due.is("count(2)", x.count(2), 4);
    x.undo();
    due.is("count(2) undone", x.count(2), 3);
  }

  private static void oldPrimary() {
    Due due = new Due(PROMOTION, "The old primary takes its place as a standby: its received and applied positions are"
        + " that of the log then, without gaps");
    for (int standby = 0; standby < 2; standby++) {
      FencedStandbys x = Due.withPuts(9);
      x.ship(standby, 8);
      x.lose(standby, 4);
      x.lose(standby, 7);
      x.tick(9);
      due.is("standbyOf(.., 1)", x.standbyOf(standby, 1), 3);
      x.promote(standby);
      due.is("standbyOf(.., 0)", x.standbyOf(standby, 0), 3);
      due.is("standbyOf(.., 1)", x.standbyOf(standby, 1), 3);
      due.is("standbyOf(.., 2)", x.standbyOf(standby, 2), 0);
      due.is("standbyOf(.., 3)", x.standbyOf(standby, 3), Due.NONE);
    }
    FencedStandbys none = Made.shipped(Due.withPuts(100), 0);
    none.lose(0, 1);
    none.lose(0, 100);
    none.promote(0);
    due.is("standbyOf(0, 0) with none applied", none.standbyOf(0, 0), 0);
    due.is("standbyOf(0, 1) with none applied", none.standbyOf(0, 1), 0);
    due.is("standbyOf(0, 2) with none applied", none.standbyOf(0, 2), 0);
    FencedStandbys all = Due.withPuts(3);
    all.rebuild(0);
    all.promote(0);
    due.is("standbyOf(0, 0) with all applied", all.standbyOf(0, 0), 3);
    due.is("standbyOf(0, 1) with all applied", all.standbyOf(0, 1), 3);
  }

  private static void oldPrimaryAstray() {
    Due due = new Due(PROMOTION, "it is astray if any record is gone, otherwise it is not");
    for (int at = 0; at <= 3; at++) {
      FencedStandbys x = applied(3, at, 0);
      x.promote(0);
      due.is("standbyOf(0, 4) at " + at + " of 3", x.standbyOf(0, 4), at < 3 ? 1 : 0);
    }
    FencedStandbys none = new FencedStandbys();
    none.open(0);
    none.promote(1);
    due.is("standbyOf(1, 4): an open transaction is no record", none.standbyOf(1, 4), 0);
    for (int kind = 0; kind < 3; kind++) {
      FencedStandbys x = new FencedStandbys();
      x.open(2);
      int record = kind == 0 ? x.put(2, 0, 0) : kind == 1 ? x.commit(2) : x.abort(2);
      due.is("one record", record, 1);
      x.promote(1);
      due.is("standbyOf(1, 4) with one record gone", x.standbyOf(1, 4), 1);
      due.is("standbyOf(0, 4) of the other", x.standbyOf(0, 4), 0);
    }
  }

  private static void otherReceived() {
    Due due = new Due(PROMOTION, "Of the other standby the received position is at most that of the log then");
    int[] want = {0, 1, 2, 3, 3, 3, 3};
    for (int received = 1; received <= 6; received++) {
      FencedStandbys x = Due.withPuts(6);
      x.ship(0, 3);
      x.tick(9);
      x.ship(1, received);
      x.promote(0);
      due.is("standbyOf(1, 0) of " + received, x.standbyOf(1, 0), want[received]);
      due.is("standbyOf(1, 1)", x.standbyOf(1, 1), 0);
      due.is("standbyOf(1, 4)", x.standbyOf(1, 4), 0);
    }
    FencedStandbys none = Due.withPuts(6);
    none.ship(1, 6);
    none.promote(0);
    due.is("standbyOf(1, 0) of an empty log", none.standbyOf(1, 0), 0);
    due.is("ship(1, 1) of an empty log", none.ship(1, 1), 0);
  }

  private static void otherGaps() {
    Due due = new Due(PROMOTION, "gaps behind it are gone");
    for (int gap = 1; gap <= 6; gap++) {
      FencedStandbys x = Due.withPuts(6);
      x.ship(0, 3);
      x.tick(9);
      x.ship(1, 6);
      x.lose(1, gap);
      x.promote(0);
      due.is("standbyOf(1, 2) with the gap " + gap, x.standbyOf(1, 2), gap <= 3 ? 1 : 0);
      due.is("standbyOf(1, 3) with the gap " + gap, x.standbyOf(1, 3), gap <= 3 ? gap : Due.NONE);
      x.open(0);
      for (int i = 0; i < 3; i++) {
        x.put(0, 0, 0);
      }
      x.ship(1, 3);
      due.is("tick(9) with the gap " + gap, x.tick(9), gap <= 3 ? gap - 1 : 6);
      due.is("count(6): it was lost on the way all the same", x.count(6), 1);
    }
    FencedStandbys full = Made.shipped(Due.withPuts(100), 1);
    full.lose(1, 100);
    full.lose(1, 1);
    full.promote(0);
    due.is("standbyOf(1, 2) of an empty log", full.standbyOf(1, 2), 0);
  }

  private static void otherApplied() {
    Due due = new Due(PROMOTION, "if its applied position is above that, it becomes astray, and its applied position is"
        + " that of the log then");
    for (int at = 0; at <= 6; at++) {
      FencedStandbys x = applied(6, at, 3);
      due.is("standbyOf(0, 1)", x.standbyOf(0, 1), at);
      x.promote(1);
      due.is("standbyOf(0, 4) at " + at, x.standbyOf(0, 4), at > 3 ? 1 : 0);
      due.is("standbyOf(0, 1) at " + at, x.standbyOf(0, 1), Math.min(3, at));
      due.is("standbyOf(0, 0) at " + at, x.standbyOf(0, 0), Math.min(3, at));
    }
    FencedStandbys none = applied(1, 1, 0);
    none.promote(1);
    due.is("standbyOf(0, 4) above an empty log", none.standbyOf(0, 4), 1);
    due.is("standbyOf(0, 1)", none.standbyOf(0, 1), 0);
    FencedStandbys same = applied(0, 0, 0);
    same.promote(1);
    due.is("standbyOf(0, 4) of an empty log", same.standbyOf(0, 4), 0);
  }

  private static void otherAlreadyAstray() {
    Due due = new Due(PROMOTION, "the other standby, when it is astray already");
    FencedStandbys below = Made.withOneAstray();
    due.is("promote(1) at 3, the other at 4", below.promote(1), 0);
    due.is("standbyOf(0, 4)", below.standbyOf(0, 4), 1);
    due.is("standbyOf(0, 0)", below.standbyOf(0, 0), 3);
    due.is("standbyOf(0, 1)", below.standbyOf(0, 1), 3);
    FencedStandbys above = Made.withOneAstray();
    above.rebuild(1);
    above.promote(1);
    due.is("standbyOf(0, 4): a promotion at 5 does not mend it", above.standbyOf(0, 4), 1);
    due.is("standbyOf(0, 0)", above.standbyOf(0, 0), 4);
    due.is("standbyOf(0, 1)", above.standbyOf(0, 1), 4);
    due.is("standbyOf(1, 4)", above.standbyOf(1, 4), 0);
  }

  private static void rebuilt() {
    Due due = new Due(PROMOTION, "When a standby is rebuilt, its received and applied positions are the number of records");
    FencedStandbys x = Made.busy();
    x.rebuild(1);
    due.is("standbyOf(1, 0)", x.standbyOf(1, 0), 7);
    due.is("standbyOf(1, 1)", x.standbyOf(1, 1), 7);
    due.is("standbyOf(0, 0) of the other", x.standbyOf(0, 0), 6);
    due.is("standbyOf(0, 1) of the other", x.standbyOf(0, 1), 4);
    FencedStandbys none = new FencedStandbys();
    due.is("rebuild(1) of no records", none.rebuild(1), 0);
    due.is("standbyOf(1, 0)", none.standbyOf(1, 0), 0);
    FencedStandbys full = Due.withPuts(100);
    due.is("rebuild(0) of 100 records", full.rebuild(0), 100);
    due.is("standbyOf(0, 0)", full.standbyOf(0, 0), 100);
    due.is("standbyOf(0, 1)", full.standbyOf(0, 1), 100);
    due.is("rebuild(0) again", full.rebuild(0), 100);
  }

  private static void rebuiltWithoutGaps() {
    Due due = new Due(PROMOTION, "When a standby is rebuilt, it has no gaps");
    FencedStandbys x = Made.shipped(Due.withPuts(100), 0);
    x.ship(1, 3);
    x.lose(1, 3);
    x.lose(0, 1);
    x.lose(0, 50);
    x.lose(0, 100);
    x.rebuild(0);
    due.is("standbyOf(0, 2)", x.standbyOf(0, 2), 0);
    due.is("standbyOf(0, 3)", x.standbyOf(0, 3), Due.NONE);
    due.is("standbyOf(1, 3) of the other", x.standbyOf(1, 3), 3);
    due.is("count(6): they were lost all the same", x.count(6), 4);
    due.is("resend(0)", x.resend(0), 0);
  }

  private static void rebuiltNotAstray() {
    Due due = new Due(PROMOTION, "When a standby is rebuilt, it is not astray");
    FencedStandbys x = Made.withBothAstray();
    due.is("rebuild(0)", x.rebuild(0), 4);
    due.is("standbyOf(0, 4)", x.standbyOf(0, 4), 0);
    due.is("standbyOf(1, 4) of the other", x.standbyOf(1, 4), 1);
    due.is("ship(0, 1)", x.ship(0, 1), 0);
    due.is("read(0, 1, 4)", x.read(0, 1, 4), 10);
    x.undo();
    x.undo();
    due.is("standbyOf(0, 4) undone", x.standbyOf(0, 4), 1);
    FencedStandbys fresh = new FencedStandbys();
    fresh.rebuild(0);
    due.is("standbyOf(0, 4) that was not", fresh.standbyOf(0, 4), 0);
  }

  // Settings

  private static void rangeOfRate() {
    Due due = new Due(SETTINGS, "0 (1 to 20; 4)");
    FencedStandbys x = new FencedStandbys();
    int was = 4;
    for (int rate = 1; rate <= 20; rate++) {
      due.is("set(0, " + rate + ")", x.set(0, rate), was);
      due.is("count(20)", x.count(20), rate);
      due.is("count(21)", x.count(21), 2);
      was = rate;
    }
    Refusal.beside(due, "set(0, ..)", 1, 20, Made::busy, (y, rate) -> y.set(0, rate), Due.INVALID);
  }

  private static void rangeOfDelay() {
    Due due = new Due(SETTINGS, "1 (0 to 20; 2)");
    FencedStandbys x = new FencedStandbys();
    int was = 2;
    for (int delay = 0; delay <= 20; delay++) {
      due.is("set(1, " + delay + ")", x.set(1, delay), was);
      due.is("count(21)", x.count(21), delay);
      due.is("count(20)", x.count(20), 4);
      was = delay;
    }
    Refusal.beside(due, "set(1, ..)", 0, 20, Made::busy, (y, delay) -> y.set(1, delay), Due.INVALID);
  }

  private static void firstSettings() {
    Due due = new Due(SETTINGS, "The settings are (in parentheses: range; first value): 0 (1 to 20; 4), 1 (0 to 20; 2).");
    FencedStandbys x = Due.withPuts(9);
    due.is("count(20)", x.count(20), 4);
    due.is("count(21)", x.count(21), 2);
    x.ship(0, 9);
    due.is("tick(1): behind the first delay", x.tick(1), 0);
    due.is("tick(1): the first rate", x.tick(1), 4);
    Refusal.beside(due, "set(.., 4)", 0, 1, Made::busy, (y, what) -> y.set(what, 4), Due.INVALID);
    Refusal.is(due, "set(20, 4), as in count", Made::busy, y -> y.set(20, 4), Due.INVALID);
    Refusal.is(due, "set(21, 4), as in count", Made::busy, y -> y.set(21, 4), Due.INVALID);
    due.is("a second object's count(20)", otherObject().count(20), 4);
  }

  private static FencedStandbys otherObject() {
    new FencedStandbys().set(0, 9);
    return new FencedStandbys();
  }
}
