/** The document's terms "Primary, log", "Standbys" and "Fences", sentence by sentence, at their boundaries. */
public final class LogTermsTest {
  private static final String LOG = "terms, Primary, log";
  private static final String STANDBYS = "terms, Standbys";
  private static final String FENCES = "terms, Fences";

  public static void main(String[] args) {
    keysAndValues();
    slots();
    transactionNumbers();
    atMostRecords();
    roomAgain();
    recordsNumberedFromOne();
    kindsOfRecords();
    tickOfRecord();
    positionsOfTheLog();
    commitsUpToThatPosition();
    orderOfCommits();
    putsInTheirOrder();
    twoStandbys();
    receivedPosition();
    gapsOnTheWay();
    neverAboveReceived();
    neverAtOrBehindGap();
    astrayNotAtFirst();
    oneByOne();
    becomesGreaterFirst();
    notAstray();
    upToRate();
    nextIsReceived();
    nextIsNoGap();
    writtenAgo();
    writtenAgoWithoutDelay();
    fencePositions();
    fenceAboveApplied();
    fenceOfAstray();
    seesAppliedPosition();
    Due.end();
  }

  // Primary, log

  private static void keysAndValues() {
    Due due = new Due(LOG, "There are 24 keys, numbered from 0, with values from 0 to 999 (0 at first).");
    FencedStandbys x = new FencedStandbys();
    x.open(0);
    for (int key = 0; key < 24; key++) {
      due.is("primary(-1, " + key + ")", x.primary(-1, key), 0);
      due.is("put(0, " + key + ", ..)", x.put(0, key, 999 - key), key + 1);
    }
    due.is("put(0, 5, 0)", x.put(0, 5, 0), 25);
    x.commit(0);
    for (int key = 0; key < 24; key++) {
      due.is("primary(-1, " + key + ")", x.primary(-1, key), key == 5 ? 0 : 999 - key);
    }
    due.is("primary(-1, 24)", x.primary(-1, 24), Due.INVALID);
    due.is("primary(-1, -1)", x.primary(-1, -1), Due.INVALID);
    Refusal.is(due, "put(1, 24, 0)", Made::busy, y -> y.put(1, 24, 0), Due.INVALID);
    Refusal.is(due, "put(1, -1, 0)", Made::busy, y -> y.put(1, -1, 0), Due.INVALID);
    Refusal.is(due, "put(1, 0, 1000)", Made::busy, y -> y.put(1, 0, 1000), Due.INVALID);
    Refusal.is(due, "put(1, 0, -1)", Made::busy, y -> y.put(1, 0, -1), Due.INVALID);
  }

  private static void slots() {
    Due due = new Due(LOG, "The primary has 3 slots, 0 to 2, each with an open transaction or none (none at first).");
    FencedStandbys x = new FencedStandbys();
    for (int slot = 0; slot < 3; slot++) {
      due.is("slotOf(" + slot + ", 0) at first", x.slotOf(slot, 0), Due.NONE);
      due.is("put(" + slot + ", 0, 0) at first", x.put(slot, 0, 0), Due.IMPOSSIBLE);
    }
    for (int slot = 2; slot >= 0; slot--) {
      due.is("open(" + slot + ")", x.open(slot), 3 - slot);
      due.is("open(" + slot + ") again", x.open(slot), Due.IMPOSSIBLE);
    }
    due.is("slotOf(3, 0)", x.slotOf(3, 0), Due.INVALID);
    due.is("slotOf(-1, 0)", x.slotOf(-1, 0), Due.INVALID);
    x.commit(1);
    due.is("slotOf(0, 0) with the slot 1 empty", x.slotOf(0, 0), 3);
    due.is("slotOf(1, 0)", x.slotOf(1, 0), Due.NONE);
    due.is("slotOf(2, 0)", x.slotOf(2, 0), 1);
  }

  private static void transactionNumbers() {
    Due due = new Due(LOG,
        "Transactions are numbered from 1 in the order in which they were opened (also of those that are lost).");
    FencedStandbys x = new FencedStandbys();
    due.is("open(2)", x.open(2), 1);
    due.is("open(0)", x.open(0), 2);
    x.put(0, 1, 1);
    x.commit(0);
    x.abort(2);
    due.is("open(0) behind a commit and an abort", x.open(0), 3);
    due.is("promote(1): all of them are lost", x.promote(1), 1);
    due.is("open(0) behind lost ones", x.open(0), 4);
    due.is("open(0) again, refused", x.open(0), Due.IMPOSSIBLE);
    due.is("open(1) behind a refused one", x.open(1), 5);
    x.put(1, 0, 7);
    due.is("recordOf(1, 1)", x.recordOf(1, 1), 5);
    x.undo();
    due.is("undo() of open(1)", x.undo(), 2);
    due.is("open(2): one that was undone was not opened", x.open(2), 5);
  }

  private static void atMostRecords() {
    Due due = new Due(LOG, "The log has at most 100 records");
    FencedStandbys x = Due.withPuts(98);
    due.is("the 99th", x.put(0, 1, 2), 99);
    due.is("the 100th", x.put(0, 1, 3), 100);
    due.is("count(0)", x.count(0), 100);
    due.is("open(1) writes none", x.open(1), 2);
    due.is("put(0, 1, 4)", x.put(0, 1, 4), Due.LIMIT);
    due.is("put(1, 1, 4)", x.put(1, 1, 4), Due.LIMIT);
    due.is("commit(0)", x.commit(0), Due.LIMIT);
    due.is("commit(1)", x.commit(1), Due.LIMIT);
    due.is("abort(0)", x.abort(0), Due.LIMIT);
    due.is("abort(1)", x.abort(1), Due.LIMIT);
    due.is("count(0)", x.count(0), 100);
    due.is("slotOf(0, 1)", x.slotOf(0, 1), 100);
    due.is("slotOf(1, 1)", x.slotOf(1, 1), 0);
    due.is("primary(0, 1)", x.primary(0, 1), 3);
    due.is("the 100th, a commit", Due.withPuts(99).commit(0), 100);
    due.is("the 100th, an abort", Due.withPuts(99).abort(0), 100);
  }

  private static void roomAgain() {
    Due due = new Due(LOG, "The log has at most 100 records, when records are gone");
    FencedStandbys x = Due.withPuts(100);
    due.is("put(0, 0, 0)", x.put(0, 0, 0), Due.LIMIT);
    x.undo();
    due.is("commit(0) behind undo()", x.commit(0), 100);
    due.is("fence(0)", x.fence(0), 100);
    x.ship(0, 20);
    x.tick(99);
    due.is("promote(0)", x.promote(0), 1);
    due.is("count(0)", x.count(0), 20);
    x.open(1);
    for (int record = 21; record <= 100; record++) {
      due.is("put(1, 2, ..)", x.put(1, 2, record), record);
    }
    due.is("put(1, 2, 3)", x.put(1, 2, 3), Due.LIMIT);
  }

  private static void recordsNumberedFromOne() {
    Due due = new Due(LOG, "records, numbered from 1");
    FencedStandbys x = new FencedStandbys();
    x.open(0);
    due.is("recordOf(1, 0) of none", x.recordOf(1, 0), Due.NONE);
    due.is("put(0, 2, 3)", x.put(0, 2, 3), 1);
    due.is("recordOf(0, 0)", x.recordOf(0, 0), Due.INVALID);
    due.is("recordOf(1, 0)", x.recordOf(1, 0), 0);
    due.is("recordOf(2, 0)", x.recordOf(2, 0), Due.NONE);
    due.is("a commit as the first record", Due.withPuts(0).commit(0), 1);
    due.is("an abort as the first record", Due.withPuts(0).abort(0), 1);
    FencedStandbys full = Due.withPuts(100);
    due.is("recordOf(100, 3)", full.recordOf(100, 3), 99);
    due.is("recordOf(101, 3)", full.recordOf(101, 3), Due.NONE);
  }

  private static void kindsOfRecords() {
    Due due = new Due(LOG,
        "A record is a put (of a transaction, with a key and a value), a commit or an abort (of a transaction)");
    FencedStandbys x = new FencedStandbys();
    x.open(1);
    x.open(2);
    x.put(2, 23, 999);
    x.put(1, 0, 0);
    x.abort(2);
    x.commit(1);
    int[][] want = {{0, 2, 23, 999}, {0, 1, 0, 0}, {2, 2, Due.NONE, Due.NONE}, {1, 1, Due.NONE, Due.NONE}};
    for (int record = 1; record <= 4; record++) {
      for (int what = 0; what <= 3; what++) {
        due.is("recordOf(" + record + ", " + what + ")", x.recordOf(record, what), want[record - 1][what]);
      }
    }
  }

  private static void tickOfRecord() {
    Due due = new Due(LOG, "it knows the tick in which it was written");
    FencedStandbys x = new FencedStandbys();
    x.open(0);
    x.put(0, 0, 0);
    x.tick(99);
    x.put(0, 0, 0);
    x.tick(1);
    x.undo();
    x.commit(0);
    Due.typeAll(x, "t2;o0;a0;t3;o0;a0;");
    x.play();
    int[] want = {0, 99, 99, 101, 104};
    for (int record = 1; record <= want.length; record++) {
      due.is("recordOf(" + record + ", 4)", x.recordOf(record, 4), Due.tick(want[record - 1]));
    }
    due.is("count(1)", x.count(1), Due.tick(104));
  }

  /** 9 records; the standby 0 has received all of them and applies one in a tick. */
  private static FencedStandbys withOneByOne() {
    FencedStandbys x = new FencedStandbys();
    x.set(0, 1);
    x.set(1, 0);
    x.open(0);
    x.open(1);
    x.open(2);
    x.put(0, 1, 10);
    x.put(1, 1, 20);
    x.put(1, 1, 21);
    x.commit(1);
    x.put(0, 2, 5);
    x.commit(0);
    x.put(2, 1, 30);
    x.abort(2);
    x.open(2);
    x.put(2, 1, 40);
    x.ship(0, 20);
    return x;
  }

  private static void positionsOfTheLog() {
    Due due = new Due(LOG, "The values at a position of the log (0 to the number of records)");
    FencedStandbys x = withOneByOne();
    due.is("count(0)", x.count(0), 9);
    due.is("read(0, 1, 0)", x.read(0, 1, 0), 0);
    due.is("read(0, 1, 9)", x.read(0, 1, 9), Due.IMPOSSIBLE);
    due.is("read(0, 1, 10)", x.read(0, 1, 10), Due.INVALID);
    x.tick(9);
    due.is("read(0, 1, 9)", x.read(0, 1, 9), 10);
    due.is("primary(-1, 1)", x.primary(-1, 1), 10);
    due.is("read(0, 1, 10)", x.read(0, 1, 10), Due.INVALID);
  }

  private static void commitsUpToThatPosition() {
    Due due = new Due(LOG, "are those of all transactions that have a commit among the records up to that position");
    FencedStandbys x = withOneByOne();
    int[] first = {0, 0, 0, 0, 21, 21, 10, 10, 10, 10};
    int[] second = {0, 0, 0, 0, 0, 0, 5, 5, 5, 5};
    for (int position = 0; position <= 9; position++) {
      due.is("standbyOf(0, 1)", x.standbyOf(0, 1), position);
      due.is("the key 1 at " + position, x.read(0, 1, position), first[position]);
      due.is("the key 2 at " + position, x.read(0, 2, position), second[position]);
      x.tick(1);
    }
    FencedStandbys aborted = new FencedStandbys();
    aborted.open(0);
    aborted.put(0, 3, 30);
    aborted.abort(0);
    due.is("the key 3 of an aborted put", aborted.primary(-1, 3), 0);
    aborted.open(0);
    aborted.put(0, 3, 31);
    due.is("the key 3 of an open put", aborted.primary(-1, 3), 0);
    aborted.commit(0);
    due.is("the key 3", aborted.primary(-1, 3), 31);
  }

  private static void orderOfCommits() {
    Due due = new Due(LOG, "in the order of their commits");
    FencedStandbys x = new FencedStandbys();
    x.open(0);
    x.open(1);
    x.put(0, 8, 100);
    x.put(1, 8, 200);
    x.commit(1);
    due.is("primary(-1, 8)", x.primary(-1, 8), 200);
    x.commit(0);
    due.is("primary(-1, 8): the older put, the younger commit", x.primary(-1, 8), 100);
    FencedStandbys other = new FencedStandbys();
    other.open(0);
    other.open(1);
    other.put(0, 8, 100);
    other.put(1, 8, 200);
    other.commit(0);
    other.commit(1);
    due.is("primary(-1, 8): the younger put and commit", other.primary(-1, 8), 200);
  }

  private static void putsInTheirOrder() {
    Due due = new Due(LOG, "each with its puts in their order");
    FencedStandbys x = new FencedStandbys();
    x.open(0);
    x.put(0, 0, 999);
    x.put(0, 23, 1);
    x.put(0, 0, 0);
    x.put(0, 23, 2);
    x.put(0, 0, 500);
    x.put(0, 23, 0);
    x.commit(0);
    due.is("primary(-1, 0)", x.primary(-1, 0), 500);
    due.is("primary(-1, 23): a put of 0 counts", x.primary(-1, 23), 0);
    x.rebuild(1);
    due.is("read(1, 0, 7)", x.read(1, 0, 7), 500);
    due.is("read(1, 23, 7)", x.read(1, 23, 7), 0);
    due.is("standbyOf(0, 8)", x.standbyOf(0, 8), 1);
  }

  // Standbys

  private static void twoStandbys() {
    Due due = new Due(STANDBYS, "There are 2 standbys, 0 and 1.");
    FencedStandbys x = Due.withPuts(3);
    due.is("ship(0, 2)", x.ship(0, 2), 2);
    due.is("ship(1, 1)", x.ship(1, 1), 1);
    due.is("standbyOf(0, 0)", x.standbyOf(0, 0), 2);
    due.is("standbyOf(1, 0)", x.standbyOf(1, 0), 1);
    for (int standby : new int[] {-1, 2}) {
      Refusal.is(due, "ship(" + standby + ", 1)", Made::busy, y -> y.ship(standby, 1), Due.INVALID);
      Refusal.is(due, "lose(" + standby + ", 5)", Made::busy, y -> y.lose(standby, 5), Due.INVALID);
      Refusal.is(due, "resend(" + standby + ")", Made::busy, y -> y.resend(standby), Due.INVALID);
      Refusal.is(due, "promote(" + standby + ")", Made::busy, y -> y.promote(standby), Due.INVALID);
      Refusal.is(due, "rebuild(" + standby + ")", Made::busy, y -> y.rebuild(standby), Due.INVALID);
      Refusal.is(due, "read(" + standby + ", 1, 0)", Made::busy, y -> y.read(standby, 1, 0), Due.INVALID);
      Refusal.is(due, "standbyOf(" + standby + ", 0)", Made::busy, y -> y.standbyOf(standby, 0), Due.INVALID);
      Refusal.is(due, "waits(" + standby + ", 0)", Made::busy, y -> y.waits(standby, 0), Due.INVALID);
      Refusal.is(due, "wouldLose(" + standby + ")", Made::busy, y -> y.wouldLose(standby), Due.INVALID);
      Refusal.is(due, "rateFor(" + standby + ", 9)", Made::busy, y -> y.rateFor(standby, 9), Due.INVALID);
    }
  }

  private static void receivedPosition() {
    Due due = new Due(STANDBYS, "Each has a received position (0 at first): records up to it were shipped");
    FencedStandbys x = Due.withPuts(3);
    due.is("standbyOf(0, 0) at first", x.standbyOf(0, 0), 0);
    due.is("standbyOf(1, 0) at first", x.standbyOf(1, 0), 0);
    due.is("lose(1, 1): nothing was shipped", x.lose(1, 1), Due.IMPOSSIBLE);
    x.ship(1, 2);
    due.is("standbyOf(1, 0)", x.standbyOf(1, 0), 2);
    due.is("standbyOf(0, 0)", x.standbyOf(0, 0), 0);
    due.is("lose(1, 3): not shipped", x.lose(1, 3), Due.IMPOSSIBLE);
    due.is("lose(1, 2): the last one that was", x.lose(1, 2), 1);
    due.is("standbyOf(1, 0): it stays", x.standbyOf(1, 0), 2);
    due.is("ship(1, 1): not the gap, the next one", x.ship(1, 1), 1);
    due.is("standbyOf(1, 0)", x.standbyOf(1, 0), 3);
    due.is("standbyOf(1, 2)", x.standbyOf(1, 2), 1);
    due.is("lose(1, 1): the first one", x.lose(1, 1), 2);
  }

  private static void gapsOnTheWay() {
    Due due = new Due(STANDBYS, "but for its gaps, which are the numbers of records that were lost on the way");
    FencedStandbys x = Due.withPuts(4);
    x.ship(0, 4);
    x.ship(1, 4);
    due.is("standbyOf(0, 2) at first", x.standbyOf(0, 2), 0);
    x.lose(0, 4);
    x.lose(0, 2);
    due.is("standbyOf(0, 2)", x.standbyOf(0, 2), 2);
    due.is("standbyOf(0, 3)", x.standbyOf(0, 3), 2);
    due.is("standbyOf(1, 2): each has its own", x.standbyOf(1, 2), 0);
    due.is("tick(9): up to the gap, and all", x.tick(9), 1 + 4);
    x.resend(0);
    due.is("tick(9)", x.tick(9), 3);
  }

  private static void neverAboveReceived() {
    Due due = new Due(STANDBYS, "and an applied position (0 at first), never above the received one");
    FencedStandbys x = Due.withPuts(5);
    due.is("standbyOf(0, 1) at first", x.standbyOf(0, 1), 0);
    due.is("standbyOf(1, 1) at first", x.standbyOf(1, 1), 0);
    due.is("tick(99): nothing was shipped", x.tick(99), 0);
    x.ship(0, 3);
    x.ship(1, 4);
    due.is("tick(1): 3 of the one, 4 of the other", x.tick(1), 7);
    due.is("standbyOf(0, 1)", x.standbyOf(0, 1), 3);
    due.is("standbyOf(1, 1)", x.standbyOf(1, 1), 4);
    due.is("tick(99)", x.tick(99), 0);
    x.ship(1, 1);
    due.is("tick(1)", x.tick(1), 1);
    due.is("standbyOf(1, 1): all records", x.standbyOf(1, 1), 5);
    due.is("tick(99)", x.tick(99), 0);
  }

  private static void neverAtOrBehindGap() {
    Due due = new Due(STANDBYS, "never at or behind a gap");
    for (int gap = 1; gap <= 6; gap++) {
      FencedStandbys x = Due.withPuts(6);
      x.ship(0, 6);
      x.lose(0, gap);
      due.is("tick(99) with the gap " + gap, x.tick(99), gap - 1);
      due.is("standbyOf(0, 1) with the gap " + gap, x.standbyOf(0, 1), gap - 1);
      due.is("lose(0, " + (gap - 1) + "): no gap at or ahead of it", x.lose(0, gap - 1),
          gap == 1 ? Due.INVALID : Due.IMPOSSIBLE);
    }
    FencedStandbys last = Made.shipped(Due.withPuts(100), 1);
    last.lose(1, 100);
    due.is("tick(99) with the gap 100", last.tick(99), 99);
    last.resend(1);
    due.is("tick(99) without it", last.tick(99), 1);
  }

  private static void astrayNotAtFirst() {
    Due due = new Due(STANDBYS, "A standby can be astray (not at first).");
    FencedStandbys x = new FencedStandbys();
    due.is("standbyOf(0, 4) at first", x.standbyOf(0, 4), 0);
    due.is("standbyOf(1, 4) at first", x.standbyOf(1, 4), 0);
    Due.commitOne(x, 1, 1);
    x.promote(1);
    due.is("standbyOf(0, 4)", x.standbyOf(0, 4), 0);
    due.is("standbyOf(1, 4)", x.standbyOf(1, 4), 1);
    Due.commitOne(x, 1, 1);
    x.promote(0);
    due.is("standbyOf(0, 4)", x.standbyOf(0, 4), 1);
    due.is("standbyOf(1, 4): both can be", x.standbyOf(1, 4), 1);
  }

  private static void oneByOne() {
    Due due = new Due(STANDBYS, "Ticks pass one by one.");
    int[] applied = {0, 0, 4, 8, 12, 14, 14};
    for (int ticks = 1; ticks < applied.length; ticks++) {
      FencedStandbys x = Due.withPuts(14);
      x.ship(0, 20);
      due.is("tick(" + ticks + ")", x.tick(ticks), applied[ticks]);
      FencedStandbys single = Due.withPuts(14);
      single.ship(0, 20);
      for (int passed = 1; passed <= ticks; passed++) {
        due.is("tick(1)", single.tick(1), applied[passed] - applied[passed - 1]);
      }
      due.same("all that is seen behind so many ticks", Look.atState(x), Look.atState(single));
    }
  }

  private static void becomesGreaterFirst() {
    Due due = new Due(STANDBYS, "When a tick passes, it becomes greater by 1; then for each standby, that of the number"
        + " 0 first, that is not astray, the applied position becomes greater by 1");
    FencedStandbys x = Due.withPuts(1);
    x.set(1, 1);
    x.ship(0, 1);
    x.ship(1, 1);
    due.is("count(1)", x.count(1), Due.tick(0));
    due.is("tick(1): the record is one tick old then", x.tick(1), 2);
    due.is("count(1)", x.count(1), Due.tick(1));
    due.is("standbyOf(0, 1)", x.standbyOf(0, 1), 1);
    due.is("standbyOf(1, 1)", x.standbyOf(1, 1), 1);
    due.is("tick(99)", x.tick(99), 0);
    due.is("count(1)", x.count(1), Due.tick(100));
  }

  private static void notAstray() {
    Due due = new Due(STANDBYS, "for each standby that is not astray");
    FencedStandbys x = Made.withOneAstray();
    due.is("tick(99): the gap 4", x.tick(99), 0);
    x.resend(1);
    x.ship(1, 1);
    due.is("tick(99): the standby 1 alone", x.tick(99), 2);
    due.is("standbyOf(0, 1)", x.standbyOf(0, 1), 4);
    due.is("standbyOf(1, 1)", x.standbyOf(1, 1), 5);
    due.is("tick(99), both astray", Made.withBothAstray().tick(99), 0);
    x.rebuild(0);
    x.put(0, 1, 1);
    x.ship(0, 1);
    due.is("tick(99), rebuilt", x.tick(99), 1);
  }

  private static void upToRate() {
    Due due = new Due(STANDBYS, "becomes greater by 1, up to setting 0 times");
    for (int rate = 1; rate <= 20; rate++) {
      FencedStandbys x = Due.withPuts(50);
      x.set(0, rate);
      x.tick(2);
      Made.shipped(x, 0);
      Made.shipped(x, 1);
      due.is("tick(1) at the rate " + rate, x.tick(1), 2 * rate);
      due.is("standbyOf(0, 1)", x.standbyOf(0, 1), rate);
      due.is("tick(1)", x.tick(1), 2 * rate);
      due.is("standbyOf(1, 1)", x.standbyOf(1, 1), 2 * rate);
    }
  }

  private static void nextIsReceived() {
    Due due = new Due(STANDBYS, "as long as the next record is received");
    for (int received = 0; received <= 4; received++) {
      FencedStandbys x = Due.withPuts(9);
      x.tick(9);
      if (received > 0) {
        x.ship(1, received);
      }
      due.is("tick(1) with " + received + " received", x.tick(1), received);
    }
  }

  private static void nextIsNoGap() {
    Due due = new Due(STANDBYS, "as long as the next record is no gap");
    FencedStandbys x = Due.withPuts(9);
    x.tick(9);
    x.ship(1, 9);
    x.lose(1, 3);
    due.is("tick(1): ahead of the gap", x.tick(1), 2);
    due.is("tick(1): at the gap", x.tick(1), 0);
    x.resend(1);
    due.is("tick(1): sent again", x.tick(1), 4);
    x.lose(1, 7);
    due.is("tick(1): the very next one is a gap", x.tick(1), 0);
    x.undo();
    x.undo();
    due.is("tick(1): its loss was undone", x.tick(1), 3);
  }

  private static void writtenAgo() {
    Due due = new Due(STANDBYS, "and was written setting 1 or more ticks ago");
    for (int delay = 1; delay <= 20; delay++) {
      FencedStandbys x = new FencedStandbys();
      x.set(1, delay);
      x.tick(7);
      x.open(0);
      x.put(0, 0, 0);
      x.ship(0, 1);
      if (delay > 1) {
        due.is("tick(" + (delay - 1) + ") with the delay " + delay, x.tick(delay - 1), 0);
      }
      due.is("tick(1) with the delay " + delay, x.tick(1), 1);
    }
    FencedStandbys later = Due.withPuts(1);
    later.tick(1);
    later.put(0, 0, 0);
    later.ship(0, 2);
    due.is("tick(1): the older one alone", later.tick(1), 1);
    later.set(1, 20);
    due.is("tick(18) with a greater delay", later.tick(18), 0);
    later.set(1, 19);
    due.is("tick(1): with a lesser one", later.tick(1), 1);
  }

  private static void writtenAgoWithoutDelay() {
    Due due = new Due(STANDBYS, "written setting 1 or more ticks ago, where setting 1 is 0");
    FencedStandbys x = Due.withPuts(3);
    x.set(1, 0);
    x.ship(0, 3);
    due.is("nothing is applied but in ticks", x.standbyOf(0, 1), 0);
    due.is("tick(1)", x.tick(1), 3);
    x.put(0, 0, 0);
    x.ship(0, 1);
    due.is("waits(0, 4)", x.waits(0, 4), 1);
    due.is("tick(1)", x.tick(1), 1);
  }

  // Fences

  private static void fencePositions() {
    Due due = new Due(FENCES, "A read at a standby has a fence, a position of the log (0 to the number of records).");
    Refusal.is(due, "read(0, 1, -1)", Made::busy, x -> x.read(0, 1, -1), Due.INVALID);
    Refusal.is(due, "read(0, 1, 8) of 7 records", Made::busy, x -> x.read(0, 1, 8), Due.INVALID);
    Refusal.is(due, "read(0, 1, 7)", Made::busy, x -> x.read(0, 1, 7), Due.IMPOSSIBLE);
    due.is("read(0, 1, 0)", Made.busy().read(0, 1, 0), 10);
    FencedStandbys none = new FencedStandbys();
    due.is("read(0, 1, 0) of no records", none.read(0, 1, 0), 0);
    due.is("read(0, 1, 1) of no records", none.read(0, 1, 1), Due.INVALID);
    FencedStandbys full = Made.full();
    full.rebuild(1);
    due.is("read(1, 1, 100)", full.read(1, 1, 100), 0);
    due.is("read(1, 1, 101)", full.read(1, 1, 101), Due.INVALID);
    due.is("read(1, 1, max)", full.read(1, 1, Integer.MAX_VALUE), Due.INVALID);
    due.is("read(1, 1, min)", full.read(1, 1, Integer.MIN_VALUE), Due.INVALID);
    full.promote(0);
    due.is("read(0, 1, 0) of a log that was cut", full.read(0, 1, 0), Due.IMPOSSIBLE);
    due.is("read(0, 1, 1) of a log that was cut", full.read(0, 1, 1), Due.INVALID);
  }

  private static void fenceAboveApplied() {
    Due due = new Due(FENCES, "If its applied position is below the fence, the read is NOT_POSSIBLE.");
    FencedStandbys x = Made.busy();
    for (int fence = 0; fence <= 7; fence++) {
      due.is("read(0, 2, " + fence + ")", x.read(0, 2, fence), fence <= 4 ? 20 : Due.IMPOSSIBLE);
      due.is("read(1, 2, " + fence + ")", x.read(1, 2, fence), fence <= 3 ? 20 : Due.IMPOSSIBLE);
    }
    Refusal.is(due, "read(0, 2, 5)", Made::busy, y -> y.read(0, 2, 5), Due.IMPOSSIBLE);
  }

  private static void fenceOfAstray() {
    Due due = new Due(FENCES, "If the standby is astray, the read is NOT_POSSIBLE.");
    for (int fence = 0; fence <= 5; fence++) {
      int at = fence;
      Refusal.is(due, "read(0, 1, " + fence + ")", Made::withOneAstray, x -> x.read(0, 1, at), Due.IMPOSSIBLE);
    }
    due.is("read(1, 1, 0) of the other", Made.withOneAstray().read(1, 1, 0), 10);
    FencedStandbys x = Made.withOneAstray();
    x.rebuild(0);
    due.is("read(0, 1, 5) rebuilt", x.read(0, 1, 5), 10);
  }

  private static void seesAppliedPosition() {
    Due due = new Due(FENCES, "Otherwise it sees the values at the applied position.");
    FencedStandbys x = new FencedStandbys();
    for (int value = 1; value <= 5; value++) {
      Due.commitOne(x, 9, value);
    }
    x.ship(0, 8);
    x.lose(0, 7);
    x.tick(9);
    for (int fence = 0; fence <= 6; fence++) {
      due.is("read(0, 9, " + fence + ")", x.read(0, 9, fence), 3);
      due.is("read(1, 9, " + fence + ")", x.read(1, 9, fence), fence == 0 ? 0 : Due.IMPOSSIBLE);
    }
    x.resend(0);
    x.tick(9);
    due.is("read(0, 9, 0): not at the end of the log", x.read(0, 9, 0), 4);
    x.rebuild(0);
    due.is("read(0, 9, 0)", x.read(0, 9, 0), 5);
  }
}
