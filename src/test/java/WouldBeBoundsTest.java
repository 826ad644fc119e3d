/** Promises 20 to 24, sentence by sentence, at their boundaries. */
public final class WouldBeBoundsTest {
  private static final String WAITS = "promise 20, waits";
  private static final String WOULD_LOSE = "promise 21, wouldLose";
  private static final String RATE_FOR = "promise 22, rateFor";
  private static final String COUNT = "promise 23, count";
  private static final String UNDO = "promise 24, undo";

  public static void main(String[] args) {
    waitsNone();
    waitsTicks();
    waitsLongest();
    waitsNothingElse();
    waitsStandby();
    waitsFence();
    waitsAstray();
    waitsNotByThen();
    wouldLoseCommits();
    wouldLoseNow();
    wouldLoseStandby();
    wouldLoseAstray();
    rateForLeast();
    rateForNothing();
    rateForUpToGap();
    rateForDelay();
    rateForNothingElse();
    rateForRange();
    rateForAstray();
    rateForNone();
    countRange();
    countRecords();
    countTickAndTimeline();
    countTransactions();
    countLostCommits();
    countLostRecords();
    countApplied();
    countStatesAndText();
    countSettings();
    undoLatest();
    undoCount();
    undoEmpty();
    undoIsNoChange();
    Due.end();
  }

  // Promise 20

  private static void waitsNone() {
    Due due = new Due(WAITS, "Returns how many ticks, 0 to 200: 0");
    FencedStandbys x = Made.busy();
    for (int fence = 0; fence <= 4; fence++) {
      due.is("waits(0, " + fence + ") at 4", x.waits(0, fence), 0);
    }
    due.is("waits(1, 3) at 3", x.waits(1, 3), 0);
    due.is("waits(0, 0) of no records", new FencedStandbys().waits(0, 0), 0);
    due.is("waits(1, 0) of 100, none applied", Made.full().waits(1, 0), 0);
    FencedStandbys full = Made.full();
    full.rebuild(1);
    due.is("waits(1, 100), all applied", full.waits(1, 100), 0);
  }

  private static void waitsTicks() {
    Due due = new Due(WAITS, "Tells behind how many ticks a standby can serve a fence");
    FencedStandbys x = Made.shipped(Due.withPuts(14), 0);
    int[] want = {0, 2, 2, 2, 2, 3, 3, 3, 3, 4, 4, 4, 4, 5, 5};
    for (int fence = 0; fence <= 14; fence++) {
      due.is("waits(0, " + fence + ")", x.waits(0, fence), want[fence]);
    }
    x.tick(1);
    for (int fence = 0; fence <= 14; fence++) {
      due.is("waits(0, " + fence + ") a tick later", x.waits(0, fence), Math.max(0, want[fence] - 1));
    }
    x.set(1, 0);
    due.is("waits(0, 4) without delay", x.waits(0, 4), 1);
    x.set(0, 14);
    due.is("waits(0, 14) at the rate 14", x.waits(0, 14), 1);
    x.set(0, 13);
    due.is("waits(0, 14) at the rate 13", x.waits(0, 14), 2);
    x.tick(1);
    due.is("waits(0, 13) just then", x.waits(0, 13), 0);
    due.is("waits(0, 14) just then", x.waits(0, 14), 1);
  }

  private static void waitsLongest() {
    Due due = new Due(WAITS, "Returns how many ticks, 0 to 200: as many as can be");
    FencedStandbys x = Made.shipped(Made.full(), 1);
    x.set(0, 1);
    x.set(1, 20);
    due.is("waits(1, 1)", x.waits(1, 1), 20);
    due.is("waits(1, 2)", x.waits(1, 2), 21);
    due.is("waits(1, 99)", x.waits(1, 99), 118);
    due.is("waits(1, 100)", x.waits(1, 100), 119);
    x.tick(99);
    due.is("waits(1, 100)", x.waits(1, 100), 20);
    x.tick(19);
    due.is("waits(1, 100)", x.waits(1, 100), 1);
    x.tick(1);
    due.is("waits(1, 100)", x.waits(1, 100), 0);
  }

  private static void waitsNothingElse() {
    Due due = new Due(WAITS, "if nothing else is done");
    FencedStandbys x = Made.shipped(Due.withPuts(14), 0);
    String before = Look.at(x);
    due.is("waits(0, 14)", x.waits(0, 14), 5);
    due.same("all that is seen behind it", Look.at(x), before);
    FencedStandbys notShipped = Due.withPuts(3);
    notShipped.ship(0, 2);
    due.is("waits(0, 2)", notShipped.waits(0, 2), 2);
    due.is("waits(0, 3): nothing is shipped meanwhile", notShipped.waits(0, 3), Due.NONE);
    notShipped.lose(0, 2);
    due.is("waits(0, 2): nothing is sent again meanwhile", notShipped.waits(0, 2), Due.NONE);
    due.is("waits(0, 1)", notShipped.waits(0, 1), 2);
  }

  private static void waitsStandby() {
    Due due = new Due(WAITS, "standby: 0 or 1; INVALID_ARGUMENT if an argument is out of range");
    Refusal.beside(due, "waits(.., 0)", 0, 1, Made::busy, (x, standby) -> x.waits(standby, 0), Due.INVALID);
    Refusal.beside(due, "waits(.., 9)", 0, 1, Made::busy, (x, standby) -> x.waits(standby, 9), Due.INVALID);
    FencedStandbys x = Due.withPuts(3);
    x.ship(1, 3);
    due.is("waits(0, 3)", x.waits(0, 3), Due.NONE);
    due.is("waits(1, 3)", x.waits(1, 3), 2);
  }

  private static void waitsFence() {
    Due due = new Due(WAITS, "fence: 0 to the number of records; INVALID_ARGUMENT if an argument is out of range");
    Refusal.beside(due, "waits(0, ..)", 0, 7, Made::busy, (x, fence) -> x.waits(0, fence), Due.INVALID);
    Refusal.beside(due, "waits(0, ..)", 0, 0, Made::fresh, (x, fence) -> x.waits(0, fence), Due.INVALID);
    Refusal.beside(due, "waits(0, ..)", 0, 5, Made::withOneAstray, (x, fence) -> x.waits(0, fence), Due.INVALID);
    due.is("waits(1, 101) of 100", Made.full().waits(1, 101), Due.INVALID);
    due.is("waits(1, 100) of 100", Made.full().waits(1, 100), Due.NONE);
  }

  private static void waitsAstray() {
    Due due = new Due(WAITS, "NOT_POSSIBLE if it is astray");
    for (int fence = 0; fence <= 5; fence++) {
      int at = fence;
      Refusal.is(due, "waits(0, " + fence + ")", Made::withOneAstray, x -> x.waits(0, at), Due.IMPOSSIBLE);
    }
    Refusal.is(due, "waits(1, 0)", Made::withBothAstray, x -> x.waits(1, 0), Due.IMPOSSIBLE);
    FencedStandbys x = Made.withOneAstray();
    due.is("waits(1, 3) of the other", x.waits(1, 3), 0);
    x.rebuild(0);
    due.is("waits(0, 5) rebuilt", x.waits(0, 5), 0);
  }

  private static void waitsNotByThen() {
    Due due = new Due(WAITS, "NOT_FOUND if it cannot by then");
    Refusal.is(due, "waits(0, 5): a gap", Made::busy, x -> x.waits(0, 5), Due.NONE);
    Refusal.is(due, "waits(0, 6): behind a gap", Made::busy, x -> x.waits(0, 6), Due.NONE);
    Refusal.is(due, "waits(0, 7): not received", Made::busy, x -> x.waits(0, 7), Due.NONE);
    Refusal.is(due, "waits(0, 1): nothing received", Made::full, x -> x.waits(0, 1), Due.NONE);
    FencedStandbys x = Made.busy();
    x.resend(0);
    due.is("waits(0, 5): sent again", x.waits(0, 5), 1);
    due.is("waits(0, 6): sent again", x.waits(0, 6), 1);
    FencedStandbys last = Made.shipped(Due.withPuts(100), 0);
    last.lose(0, 100);
    due.is("waits(0, 99): ahead of the gap", last.waits(0, 99), 26);
    due.is("waits(0, 100): at the gap", last.waits(0, 100), Due.NONE);
  }

  // Promise 21

  private static void wouldLoseCommits() {
    Due due = new Due(WOULD_LOSE, "Tells how many commits would be lost if a standby was promoted now. Returns how many");
    due.is("wouldLose(0) of no records", new FencedStandbys().wouldLose(0), 0);
    due.is("wouldLose(0) of 100 puts", Made.full().wouldLose(0), 0);
    FencedStandbys all = new FencedStandbys();
    for (int i = 0; i < 100; i++) {
      all.open(0);
      all.commit(0);
    }
    due.is("wouldLose(1) of 100 commits", all.wouldLose(1), 100);
    all.ship(0, 1);
    due.is("wouldLose(0): received is not applied", all.wouldLose(0), 100);
    all.tick(2);
    due.is("wouldLose(0): the first one is applied", all.wouldLose(0), 99);
    due.is("promote(0)", all.promote(0), 99);
    FencedStandbys rebuilt = new FencedStandbys();
    Due.commitOne(rebuilt, 1, 1);
    rebuilt.rebuild(1);
    due.is("wouldLose(1): the last one is applied", rebuilt.wouldLose(1), 0);
    rebuilt.open(0);
    rebuilt.commit(0);
    due.is("wouldLose(1): the very next record", rebuilt.wouldLose(1), 1);
    rebuilt.open(0);
    rebuilt.abort(0);
    due.is("wouldLose(1): an abort", rebuilt.wouldLose(1), 1);
  }

  private static void wouldLoseNow() {
    Due due = new Due(WOULD_LOSE, "if a standby was promoted now: it is not");
    FencedStandbys x = new FencedStandbys();
    Due.commitOne(x, 1, 1);
    String before = Look.at(x);
    due.is("wouldLose(0)", x.wouldLose(0), 1);
    due.is("wouldLose(1)", x.wouldLose(1), 1);
    due.same("all that is seen behind it", Look.at(x), before);
    due.is("wouldLose(0) again", x.wouldLose(0), 1);
    due.is("count(5)", x.count(5), 0);
  }

  private static void wouldLoseStandby() {
    Due due = new Due(WOULD_LOSE, "standby: 0 or 1; INVALID_ARGUMENT");
    Refusal.beside(due, "wouldLose", 0, 1, Made::busy, (x, standby) -> x.wouldLose(standby), Due.INVALID);
    Refusal.beside(due, "wouldLose", 0, 1, Made::withBothAstray, (x, standby) -> x.wouldLose(standby), Due.INVALID);
  }

  private static void wouldLoseAstray() {
    Due due = new Due(WOULD_LOSE, "NOT_POSSIBLE if it is astray");
    Refusal.is(due, "wouldLose(0)", Made::withOneAstray, x -> x.wouldLose(0), Due.IMPOSSIBLE);
    Refusal.is(due, "wouldLose(1)", Made::withBothAstray, x -> x.wouldLose(1), Due.IMPOSSIBLE);
    FencedStandbys x = Made.withOneAstray();
    x.commit(0);
    due.is("wouldLose(1) of the other", x.wouldLose(1), 1);
    x.rebuild(0);
    due.is("wouldLose(0) rebuilt", x.wouldLose(0), 0);
  }

  // Promise 22

  private static void rateForLeast() {
    Due due = new Due(RATE_FOR, "Finds the least rate (setting 0) by which a standby would have applied all that it has"
        + " received within some ticks. Returns the rate, 1 to 20");
    FencedStandbys x = Made.shipped(Due.withPuts(100), 0);
    x.set(1, 0);
    int[] ticks = {99, 50, 49, 34, 33, 25, 24, 20, 19, 10, 9, 6, 5};
    int[] rates = {2, 2, 3, 3, 4, 4, 5, 5, 6, 10, 12, 17, 20};
    for (int i = 0; i < ticks.length; i++) {
      due.is("rateFor(0, " + ticks[i] + ")", x.rateFor(0, ticks[i]), rates[i]);
    }
    due.is("rateFor(0, 4)", x.rateFor(0, 4), Due.NONE);
    for (int many = 1; many <= 20; many++) {
      FencedStandbys some = Due.withPuts(30);
      some.set(1, 0);
      some.ship(1, many);
      due.is("rateFor(1, 1) of " + many, some.rateFor(1, 1), many);
      due.is("rateFor(1, " + many + ") of " + many, some.rateFor(1, many), 1);
      if (many > 1) {
        due.is("rateFor(1, " + (many - 1) + ") of " + many, some.rateFor(1, many - 1), 2);
      }
    }
    FencedStandbys over = Due.withPuts(21);
    over.set(1, 1);
    Made.shipped(over, 0);
    due.is("rateFor(0, 1) of 21", over.rateFor(0, 1), Due.NONE);
    due.is("rateFor(0, 2) of 21", over.rateFor(0, 2), 11);
  }

  private static void rateForNothing() {
    Due due = new Due(RATE_FOR, "all that it has received, where it has applied that already");
    due.is("rateFor(0, 1) of no records", new FencedStandbys().rateFor(0, 1), 1);
    due.is("rateFor(1, 1) of nothing received", Made.full().rateFor(1, 1), 1);
    due.is("rateFor(1, 99) of nothing received", Made.full().rateFor(1, 99), 1);
    FencedStandbys x = Made.full();
    x.rebuild(0);
    x.set(1, 20);
    due.is("rateFor(0, 1) rebuilt, whatever the delay", x.rateFor(0, 1), 1);
  }

  private static void rateForUpToGap() {
    Due due = new Due(RATE_FOR, "all that it has received, up to its first gap");
    FencedStandbys x = Made.shipped(Due.withPuts(100), 0);
    x.set(1, 1);
    x.lose(0, 100);
    due.is("rateFor(0, 99) with the gap 100", x.rateFor(0, 99), 1);
    x.resend(0);
    due.is("rateFor(0, 99) without it", x.rateFor(0, 99), 2);
    x.lose(0, 41);
    x.lose(0, 60);
    due.is("rateFor(0, 2) with the gaps 41 and 60", x.rateFor(0, 2), 20);
    due.is("rateFor(0, 40)", x.rateFor(0, 40), 1);
    due.is("rateFor(0, 39)", x.rateFor(0, 39), 2);
    x.lose(0, 1);
    due.is("rateFor(0, 1) with the gap 1", x.rateFor(0, 1), 1);
    due.is("rateFor(0, 1) of busy: the gap is next", Made.busy().rateFor(0, 1), 1);
  }

  private static void rateForDelay() {
    Due due = new Due(RATE_FOR, "within some ticks, of which the delay takes some");
    FencedStandbys x = Due.withPuts(10);
    x.set(1, 20);
    x.ship(0, 10);
    due.is("rateFor(0, 19)", x.rateFor(0, 19), Due.NONE);
    due.is("rateFor(0, 20)", x.rateFor(0, 20), 10);
    due.is("rateFor(0, 21)", x.rateFor(0, 21), 5);
    due.is("rateFor(0, 29)", x.rateFor(0, 29), 1);
    due.is("rateFor(0, 28)", x.rateFor(0, 28), 2);
    x.tick(19);
    due.is("rateFor(0, 1) behind 19 ticks", x.rateFor(0, 1), 10);
    x.put(0, 0, 0);
    x.ship(0, 1);
    due.is("rateFor(0, 19): a young one more", x.rateFor(0, 19), Due.NONE);
    due.is("rateFor(0, 20): a young one more", x.rateFor(0, 20), 1);
  }

  private static void rateForNothingElse() {
    Due due = new Due(RATE_FOR, "if nothing else is done");
    FencedStandbys x = Made.shipped(Due.withPuts(30), 0);
    FencedStandbys twin = Made.shipped(Due.withPuts(30), 0);
    x.set(0, 7);
    twin.set(0, 7);
    due.is("rateFor(0, 3)", x.rateFor(0, 3), 15);
    due.is("rateFor(0, 99)", x.rateFor(0, 99), 1);
    due.same("all that is seen behind it", Look.at(x), Look.at(twin));
    due.is("count(20): the rate stays", x.count(20), 7);
    FencedStandbys some = Due.withPuts(30);
    some.ship(1, 5);
    due.is("rateFor(1, 2): nothing is shipped meanwhile", some.rateFor(1, 2), 5);
    FencedStandbys two = Made.shipped(Made.shipped(Due.withPuts(20), 0), 1);
    due.is("rateFor(0, 2): each applies so many", two.rateFor(0, 2), 20);
  }

  private static void rateForRange() {
    Due due = new Due(RATE_FOR, "standby: 0 or 1; ticks: 1 to 99; INVALID_ARGUMENT if an argument is out of range");
    due.is("rateFor(0, 1)", new FencedStandbys().rateFor(0, 1), 1);
    due.is("rateFor(1, 99)", new FencedStandbys().rateFor(1, 99), 1);
    Refusal.beside(due, "rateFor(.., 9)", 0, 1, Made::busy, (x, standby) -> x.rateFor(standby, 9), Due.INVALID);
    Refusal.beside(due, "rateFor(0, ..)", 1, 99, Made::busy, (x, ticks) -> x.rateFor(0, ticks), Due.INVALID);
    Refusal.beside(due, "rateFor(0, ..)", 1, 99, Made::withOneAstray, (x, ticks) -> x.rateFor(0, ticks), Due.INVALID);
  }

  private static void rateForAstray() {
    Due due = new Due(RATE_FOR, "NOT_POSSIBLE if it is astray");
    Refusal.is(due, "rateFor(0, 1)", Made::withOneAstray, x -> x.rateFor(0, 1), Due.IMPOSSIBLE);
    Refusal.is(due, "rateFor(0, 99)", Made::withOneAstray, x -> x.rateFor(0, 99), Due.IMPOSSIBLE);
    Refusal.is(due, "rateFor(1, 9)", Made::withBothAstray, x -> x.rateFor(1, 9), Due.IMPOSSIBLE);
    due.is("rateFor(1, 9) of the other", Made.withOneAstray().rateFor(1, 9), 1);
  }

  private static void rateForNone() {
    Due due = new Due(RATE_FOR, "NOT_FOUND if none would do");
    Refusal.is(due, "rateFor(0, 1): too fresh", () -> Made.shipped(Due.withPuts(1), 0), x -> x.rateFor(0, 1), Due.NONE);
    Refusal.is(due, "rateFor(0, 5) of 100", () -> Made.shipped(Made.full(), 0), x -> x.rateFor(0, 5), Due.NONE);
    due.is("rateFor(0, 6) of 100", Made.shipped(Made.full(), 0).rateFor(0, 6), 20);
    due.is("rateFor(0, 2) of 1", Made.shipped(Due.withPuts(1), 0).rateFor(0, 2), 1);
  }

  // Promise 23

  private static void countRange() {
    Due due = new Due(COUNT, "what: 0 to 9; 20 and 21; INVALID_ARGUMENT if what is out of range");
    FencedStandbys x = Made.busy();
    int[] want = {7, Due.tick(5), 1, 4, 1, 0, 2, 7, 4, 6};
    for (int what = 0; what <= 9; what++) {
      due.is("count(" + what + ")", x.count(what), want[what]);
    }
    for (int what = 10; what <= 19; what++) {
      int of = what;
      Refusal.is(due, "count(" + what + ")", Made::busy, y -> y.count(of), Due.INVALID);
    }
    Refusal.beside(due, "count", 0, 21, Made::busy, (y, what) -> y.count(what), Due.INVALID);
    due.is("count(20)", x.count(20), 3);
    due.is("count(21)", x.count(21), 2);
  }

  private static void countRecords() {
    Due due = new Due(COUNT, "0: records; 4: commits in the log");
    FencedStandbys x = new FencedStandbys();
    due.is("count(0) of none", x.count(0), 0);
    due.is("count(4) of none", x.count(4), 0);
    for (int i = 1; i <= 100; i++) {
      x.open(0);
      x.commit(0);
      due.is("count(0)", x.count(0), i);
      due.is("count(4)", x.count(4), i);
    }
    x.open(0);
    due.is("commit(0), refused", x.commit(0), Due.LIMIT);
    due.is("count(4)", x.count(4), 100);
    x.promote(0);
    due.is("count(0) of a log that was cut", x.count(0), 0);
    due.is("count(4) of a log that was cut", x.count(4), 0);
    due.is("count(4) of 100 puts", Made.full().count(4), 0);
    FencedStandbys aborted = new FencedStandbys();
    aborted.open(0);
    aborted.abort(0);
    due.is("count(4) of an abort", aborted.count(4), 0);
    due.is("count(0) of an abort", aborted.count(0), 1);
  }

  private static void countTickAndTimeline() {
    Due due = new Due(COUNT, "1: the tick; 2: the timeline");
    FencedStandbys x = new FencedStandbys();
    due.is("count(1) at first", x.count(1), Due.tick(0));
    due.is("count(2) at first", x.count(2), 1);
    x.promote(0);
    due.is("count(1)", x.count(1), Due.tick(0));
    due.is("count(2)", x.count(2), 2);
    x.tick(99);
    due.is("count(1)", x.count(1), Due.tick(99));
    due.is("count(2)", x.count(2), 2);
    for (int i = 0; i < 300; i++) {
      x.promote(1);
    }
    due.is("count(2)", x.count(2), 302);
  }

  private static void countTransactions() {
    Due due = new Due(COUNT, "3: transactions so far");
    FencedStandbys x = new FencedStandbys();
    due.is("count(3) at first", x.count(3), 0);
    x.open(0);
    due.is("count(3) of one that is open", x.count(3), 1);
    x.abort(0);
    due.is("count(3) of one that was aborted", x.count(3), 1);
    x.open(0);
    x.promote(0);
    due.is("count(3) of those that were lost", x.count(3), 2);
    due.is("open(3), refused", x.open(3), Due.INVALID);
    due.is("count(3)", x.count(3), 2);
    x.undo();
    x.undo();
    due.is("count(3) undone", x.count(3), 1);
  }

  private static void countLostCommits() {
    Due due = new Due(COUNT, "5: commits that were lost so far");
    FencedStandbys x = new FencedStandbys();
    due.is("count(5) at first", x.count(5), 0);
    Due.commitOne(x, 1, 1);
    x.open(0);
    x.put(0, 1, 2);
    x.abort(0);
    x.open(0);
    x.put(0, 1, 3);
    x.promote(0);
    due.is("count(5): commits alone", x.count(5), 1);
    Due.commitOne(x, 1, 1);
    Due.commitOne(x, 1, 1);
    x.promote(1);
    due.is("count(5): of both promotions", x.count(5), 3);
    x.rebuild(0);
    x.promote(0);
    due.is("count(5): of none more", x.count(5), 3);
    x.undo();
    x.undo();
    x.undo();
    due.is("count(5) undone", x.count(5), 1);
  }

  private static void countLostRecords() {
    Due due = new Due(COUNT, "6: records that were lost on the way so far");
    FencedStandbys x = Made.shipped(Made.shipped(Due.withPuts(5), 0), 1);
    due.is("count(6) at first", x.count(6), 0);
    x.lose(0, 1);
    x.lose(1, 1);
    due.is("count(6): of both standbys", x.count(6), 2);
    due.is("lose(0, 1), refused", x.lose(0, 1), Due.IMPOSSIBLE);
    due.is("count(6)", x.count(6), 2);
    x.resend(0);
    due.is("count(6) sent again", x.count(6), 2);
    x.lose(0, 1);
    due.is("count(6): lost once more", x.count(6), 3);
    x.rebuild(0);
    x.promote(1);
    due.is("count(6): a promotion loses none on the way", x.count(6), 3);
  }

  private static void countApplied() {
    Due due = new Due(COUNT, "7: records that were applied so far, by both, in ticks");
    FencedStandbys x = Due.withPuts(9);
    x.ship(0, 5);
    x.ship(1, 3);
    due.is("count(7) at first", x.count(7), 0);
    x.tick(2);
    due.is("count(7): 4 and 3", x.count(7), 7);
    x.tick(1);
    due.is("count(7): 1 more", x.count(7), 8);
    x.rebuild(0);
    due.is("count(7): a rebuild is not in ticks", x.count(7), 8);
    x.promote(1);
    due.is("count(7): those that are gone still count", x.count(7), 8);
    x.rebuild(0);
    x.open(0);
    x.put(0, 0, 0);
    Due.typeAll(x, "s0,1;t2;");
    x.play();
    due.is("count(7): in ticks of a text", x.count(7), 9);
    x.undo();
    due.is("count(7) undone", x.count(7), 8);
  }

  private static void countStatesAndText() {
    Due due = new Due(COUNT, "8: states in the history; 9: the length of the text");
    FencedStandbys x = new FencedStandbys();
    int[] states = {0, 1, 2, 3, 4, 4, 4};
    for (int changes = 0; changes < states.length; changes++) {
      due.is("count(8) behind " + changes + " changes", x.count(8), states[changes]);
      x.tick(1);
    }
    x.undo();
    due.is("count(8)", x.count(8), 3);
    for (int length = 0; length <= 60; length++) {
      due.is("count(9)", x.count(9), length);
      due.is("type('t')", x.type('t'), length == 60 ? Due.LIMIT : length + 1);
    }
    x.clearText();
    due.is("count(9) of an emptied text", x.count(9), 0);
    due.is("count(8)", x.count(8), 3);
  }

  private static void countSettings() {
    Due due = new Due(COUNT, "20 and 21: the settings 0 and 1");
    FencedStandbys x = new FencedStandbys();
    due.is("count(20) at first", x.count(20), 4);
    due.is("count(21) at first", x.count(21), 2);
    x.set(0, 20);
    due.is("count(20)", x.count(20), 20);
    due.is("count(21)", x.count(21), 2);
    x.set(1, 0);
    due.is("count(20)", x.count(20), 20);
    due.is("count(21)", x.count(21), 0);
    x.undo();
    x.undo();
    due.is("count(20) undone", x.count(20), 4);
    due.is("count(21) undone", x.count(21), 2);
  }

  // Promise 24

  private static void undoLatest() {
    Due due = new Due(UNDO, "Restores the latest state of the history, which is removed from it.");
    for (int changes = 1; changes <= 9; changes++) {
      for (int back = 1; back <= Math.min(4, changes); back++) {
        FencedStandbys x = stepped(changes);
        for (int i = 0; i < back; i++) {
          x.undo();
        }
        due.same("all that is seen behind " + changes + " changes and " + back + " undos", Look.atState(x),
            Look.atState(stepped(changes - back)));
      }
    }
  }

  /** So many changes of all kinds. */
  private static FencedStandbys stepped(int changes) {
    FencedStandbys x = new FencedStandbys();
    for (int change = 0; change < changes; change++) {
      switch (change) {
        case 0: x.open(0); break;
        case 1: x.put(0, 1, 10); break;
        case 2: x.commit(0); break;
        case 3: x.ship(0, 3); break;
        case 4: x.lose(0, 2); break;
        case 5: x.tick(3); break;
        case 6: x.set(1, 0); break;
        case 7: x.promote(0); break;
        default: x.rebuild(0);
      }
    }
    return x;
  }

  private static void undoCount() {
    Due due = new Due(UNDO, "Returns the number of states that are left in the history");
    for (int changes = 1; changes <= 6; changes++) {
      FencedStandbys x = stepped(changes);
      for (int left = Math.min(4, changes) - 1; left >= 0; left--) {
        due.is("undo() behind " + changes + " changes", x.undo(), left);
        due.is("count(8)", x.count(8), left);
      }
    }
  }

  private static void undoEmpty() {
    Due due = new Due(UNDO, "NOT_POSSIBLE if it is empty");
    Refusal.is(due, "undo() at first", Made::fresh, x -> x.undo(), Due.IMPOSSIBLE);
    Refusal.is(due, "undo() behind all undos", WouldBeBoundsTest::busyUndone, x -> x.undo(), Due.IMPOSSIBLE);
    FencedStandbys x = new FencedStandbys();
    due.is("open(3), refused", x.open(3), Due.INVALID);
    due.is("undo(): a refused call is not undone", x.undo(), Due.IMPOSSIBLE);
    x.type('t');
    due.is("undo(): what was typed is not undone", x.undo(), Due.IMPOSSIBLE);
    due.is("count(9)", x.count(9), 1);
  }

  private static FencedStandbys busyUndone() {
    FencedStandbys x = Made.busy();
    for (int i = 0; i < 4; i++) {
      x.undo();
    }
    return x;
  }

  private static void undoIsNoChange() {
    Due due = new Due(UNDO, "Restores the latest state of the history: an undo cannot be undone");
    FencedStandbys x = new FencedStandbys();
    x.tick(1);
    x.tick(2);
    due.is("undo()", x.undo(), 1);
    due.is("count(1)", x.count(1), Due.tick(1));
    due.is("undo() again goes further back", x.undo(), 0);
    due.is("count(1)", x.count(1), Due.tick(0));
    x.tick(5);
    due.is("undo() of a change behind undos", x.undo(), 0);
    due.is("count(1)", x.count(1), Due.tick(0));
  }
}
