/** Promises 6 to 12, sentence by sentence, at their boundaries. */
public final class StandbysBoundsTest {
  private static final String SHIP = "promise 6, ship";
  private static final String LOSE = "promise 7, lose";
  private static final String RESEND = "promise 8, resend";
  private static final String TICK = "promise 9, tick";
  private static final String PROMOTE = "promise 10, promote";
  private static final String REBUILD = "promise 11, rebuild";
  private static final String SET = "promise 12, set";

  public static void main(String[] args) {
    shipNext();
    shipStandby();
    shipMany();
    shipFewer();
    shipAstray();
    loseShipped();
    loseStandby();
    loseRecord();
    loseCount();
    loseNotShipped();
    loseGapAlready();
    loseApplied();
    loseAstray();
    resendAll();
    resendStandby();
    resendCount();
    resendAstray();
    tickRange();
    tickCount();
    tickGoesOn();
    promoteCount();
    promoteStandby();
    promoteAstray();
    rebuildPosition();
    rebuildStandby();
    setWhat();
    setValue();
    setWas();
    Due.end();
  }

  // Promise 6

  private static void shipNext() {
    Due due = new Due(SHIP, "Ships the next records to a standby.");
    FencedStandbys x = Due.withPuts(9);
    x.ship(0, 3);
    due.is("standbyOf(0, 0)", x.standbyOf(0, 0), 3);
    due.is("lose(0, 2)", x.lose(0, 2), 1);
    due.is("ship(0, 2): those behind the received position", x.ship(0, 2), 2);
    due.is("standbyOf(0, 0)", x.standbyOf(0, 0), 5);
    due.is("standbyOf(0, 2): no gap is sent again", x.standbyOf(0, 2), 1);
    due.is("standbyOf(1, 0): not to the other", x.standbyOf(1, 0), 0);
    due.is("standbyOf(0, 1): shipped is not applied", x.standbyOf(0, 1), 0);
    x.rebuild(1);
    x.put(0, 0, 0);
    due.is("ship(1, 20) behind a rebuild", x.ship(1, 20), 1);
  }

  private static void shipStandby() {
    Due due = new Due(SHIP, "standby: 0 or 1; INVALID_ARGUMENT if an argument is out of range");
    due.is("ship(0, 1)", Made.full().ship(0, 1), 1);
    due.is("ship(1, 1)", Made.full().ship(1, 1), 1);
    Refusal.beside(due, "ship(.., 1)", 0, 1, Made::busy, (x, standby) -> x.ship(standby, 1), Due.INVALID);
  }

  private static void shipMany() {
    Due due = new Due(SHIP, "many: 1 to 20; INVALID_ARGUMENT if an argument is out of range");
    for (int many = 1; many <= 20; many++) {
      FencedStandbys x = Due.withPuts(30);
      due.is("ship(1, " + many + ")", x.ship(1, many), many);
      due.is("standbyOf(1, 0)", x.standbyOf(1, 0), many);
    }
    Refusal.beside(due, "ship(0, ..)", 1, 20, Made::busy, (x, many) -> x.ship(0, many), Due.INVALID);
    Refusal.beside(due, "ship(0, ..)", 1, 20, Made::withOneAstray, (x, many) -> x.ship(0, many), Due.INVALID);
  }

  private static void shipFewer() {
    Due due = new Due(SHIP, "Returns how many are shipped (perhaps fewer)");
    due.is("ship(0, 20) of none", new FencedStandbys().ship(0, 20), 0);
    due.is("ship(0, 20) of 1", Due.withPuts(1).ship(0, 20), 1);
    due.is("ship(0, 20) of 19", Due.withPuts(19).ship(0, 20), 19);
    due.is("ship(0, 20) of 20", Due.withPuts(20).ship(0, 20), 20);
    due.is("ship(0, 20) of 21", Due.withPuts(21).ship(0, 20), 20);
    FencedStandbys full = Due.withPuts(100);
    for (int i = 0; i < 5; i++) {
      due.is("ship(0, 20)", full.ship(0, 20), 20);
    }
    due.is("ship(0, 20) of none left", full.ship(0, 20), 0);
    due.is("ship(0, 1) of none left", full.ship(0, 1), 0);
    due.is("standbyOf(0, 0)", full.standbyOf(0, 0), 100);
  }

  private static void shipAstray() {
    Due due = new Due(SHIP, "NOT_POSSIBLE if it is astray");
    Refusal.is(due, "ship(0, 1)", Made::withOneAstray, x -> x.ship(0, 1), Due.IMPOSSIBLE);
    Refusal.is(due, "ship(0, 20)", Made::withBothAstray, x -> x.ship(0, 20), Due.IMPOSSIBLE);
    Refusal.is(due, "ship(1, 1)", Made::withBothAstray, x -> x.ship(1, 1), Due.IMPOSSIBLE);
    due.is("ship(1, 20) of the other", Made.withOneAstray().ship(1, 20), 1);
    FencedStandbys x = Made.withOneAstray();
    x.rebuild(0);
    due.is("ship(0, 20) rebuilt", x.ship(0, 20), 0);
  }

  // Promise 7

  private static void loseShipped() {
    Due due = new Due(LOSE, "Loses a record that was shipped and is not applied.");
    FencedStandbys x = Made.busy();
    due.is("lose(0, 6): the last one that was shipped", x.lose(0, 6), 2);
    due.is("standbyOf(0, 3)", x.standbyOf(0, 3), 5);
    due.is("lose(1, 5)", x.lose(1, 5), 2);
    due.is("standbyOf(1, 0): the received position stays", x.standbyOf(1, 0), 5);
    due.is("count(6)", x.count(6), 4);
    FencedStandbys first = Due.withPuts(2);
    first.ship(0, 1);
    due.is("lose(0, 1): the first one behind the applied position", first.lose(0, 1), 1);
    due.is("recordOf(1, 0): the log has it still", first.recordOf(1, 0), 0);
    FencedStandbys last = Made.shipped(Due.withPuts(100), 0);
    due.is("lose(0, 100)", last.lose(0, 100), 1);
    due.is("standbyOf(0, 3)", last.standbyOf(0, 3), 100);
  }

  private static void loseStandby() {
    Due due = new Due(LOSE, "standby: 0 or 1; INVALID_ARGUMENT if standby is out of range");
    due.is("lose(0, 6)", Made.busy().lose(0, 6), 2);
    due.is("lose(1, 5)", Made.busy().lose(1, 5), 2);
    Refusal.beside(due, "lose(.., 6)", 0, 1, Made::busy, (x, standby) -> x.lose(standby, 6), Due.INVALID);
    Refusal.is(due, "lose(2, 0)", Made::busy, x -> x.lose(2, 0), Due.INVALID);
  }

  private static void loseRecord() {
    Due due = new Due(LOSE, "record: 1 or more; INVALID_ARGUMENT if record is below 1");
    Refusal.below(due, "lose(0, ..)", 1, Made::busy, (x, record) -> x.lose(0, record), Due.INVALID);
    Refusal.below(due, "lose(0, ..)", 1, Made::withOneAstray, (x, record) -> x.lose(0, record), Due.INVALID);
    for (int record : new int[] {8, 100, 101, 102, 256 + 6, 65536 + 6, Integer.MAX_VALUE}) {
      Refusal.is(due, "lose(0, " + record + "), not below 1", Made::busy, x -> x.lose(0, record), Due.IMPOSSIBLE);
    }
    for (int record : new int[] {101, 102, Integer.MAX_VALUE}) {
      Refusal.is(due, "lose(0, " + record + ") of 100", () -> Made.shipped(Made.full(), 0), x -> x.lose(0, record),
          Due.IMPOSSIBLE);
    }
  }

  private static void loseCount() {
    Due due = new Due(LOSE, "Returns how many gaps there are then");
    FencedStandbys x = Made.shipped(Due.withPuts(100), 1);
    x.ship(0, 20);
    for (int record = 1; record <= 100; record++) {
      due.is("lose(1, " + record + ")", x.lose(1, record), record);
    }
    due.is("lose(0, 1): of its own alone", x.lose(0, 1), 1);
    due.is("resend(1)", x.resend(1), 100);
    due.is("lose(1, 3): then, not so far", x.lose(1, 3), 1);
    due.is("count(6): so far", x.count(6), 102);
  }

  private static void loseNotShipped() {
    Due due = new Due(LOSE, "NOT_POSSIBLE if the record was not shipped");
    Refusal.is(due, "lose(0, 7): there is such a record", Made::busy, x -> x.lose(0, 7), Due.IMPOSSIBLE);
    Refusal.is(due, "lose(0, 8): there is none", Made::busy, x -> x.lose(0, 8), Due.IMPOSSIBLE);
    Refusal.is(due, "lose(1, 6): shipped to the other", Made::busy, x -> x.lose(1, 6), Due.IMPOSSIBLE);
    Refusal.is(due, "lose(0, 1)", Made::fresh, x -> x.lose(0, 1), Due.IMPOSSIBLE);
    FencedStandbys x = Made.busy();
    x.ship(0, 1);
    due.is("lose(0, 7) shipped", x.lose(0, 7), 2);
  }

  private static void loseGapAlready() {
    Due due = new Due(LOSE, "NOT_POSSIBLE if the record is a gap already");
    Refusal.is(due, "lose(0, 5)", Made::busy, x -> x.lose(0, 5), Due.IMPOSSIBLE);
    Refusal.is(due, "lose(1, 4)", Made::busy, x -> x.lose(1, 4), Due.IMPOSSIBLE);
    FencedStandbys x = Made.busy();
    due.is("lose(1, 5): a gap of the other", x.lose(1, 5), 2);
    x.resend(0);
    due.is("lose(0, 5) sent again", x.lose(0, 5), 1);
    x.undo();
    due.is("lose(0, 5) undone", x.lose(0, 5), 1);
  }

  private static void loseApplied() {
    Due due = new Due(LOSE, "NOT_POSSIBLE if the record is applied");
    for (int record = 1; record <= 4; record++) {
      int number = record;
      Refusal.is(due, "lose(0, " + record + ")", Made::busy, x -> x.lose(0, number), Due.IMPOSSIBLE);
    }
    FencedStandbys x = new FencedStandbys();
    Due.commitOne(x, 1, 1);
    x.rebuild(0);
    due.is("lose(0, 2) rebuilt", x.lose(0, 2), Due.IMPOSSIBLE);
    due.is("lose(0, 1) rebuilt", x.lose(0, 1), Due.IMPOSSIBLE);
  }

  private static void loseAstray() {
    Due due = new Due(LOSE, "NOT_POSSIBLE if the standby is astray");
    for (int record = 1; record <= 6; record++) {
      int number = record;
      Refusal.is(due, "lose(0, " + record + ")", Made::withOneAstray, x -> x.lose(0, number), Due.IMPOSSIBLE);
    }
    FencedStandbys x = Made.withOneAstray();
    x.ship(1, 1);
    due.is("lose(1, 5) of the other", x.lose(1, 5), 2);
  }

  // Promise 8

  private static void resendAll() {
    Due due = new Due(RESEND, "Ships all gaps of a standby again.");
    FencedStandbys x = Made.shipped(Due.withPuts(100), 0);
    x.lose(0, 1);
    x.lose(0, 2);
    x.lose(0, 99);
    x.lose(0, 100);
    due.is("resend(0)", x.resend(0), 4);
    due.is("standbyOf(0, 2)", x.standbyOf(0, 2), 0);
    due.is("standbyOf(0, 0): the received position stays", x.standbyOf(0, 0), 100);
    x.set(0, 20);
    due.is("tick(99): all are there", x.tick(99), 100);
  }

  private static void resendStandby() {
    Due due = new Due(RESEND, "standby: 0 or 1; INVALID_ARGUMENT if standby is out of range");
    due.is("resend(0)", Made.busy().resend(0), 1);
    due.is("resend(1)", Made.busy().resend(1), 1);
    Refusal.beside(due, "resend", 0, 1, Made::busy, (x, standby) -> x.resend(standby), Due.INVALID);
  }

  private static void resendCount() {
    Due due = new Due(RESEND, "Returns how many there were");
    due.is("resend(0) of no records", new FencedStandbys().resend(0), 0);
    FencedStandbys x = Made.busy();
    x.lose(0, 6);
    due.is("resend(0)", x.resend(0), 2);
    due.is("resend(0) again", x.resend(0), 0);
    due.is("standbyOf(1, 2): the other keeps its own", x.standbyOf(1, 2), 1);
    due.is("standbyOf(1, 3)", x.standbyOf(1, 3), 4);
    due.is("count(6)", x.count(6), 3);
  }

  private static void resendAstray() {
    Due due = new Due(RESEND, "NOT_POSSIBLE if it is astray");
    Refusal.is(due, "resend(0)", Made::withOneAstray, x -> x.resend(0), Due.IMPOSSIBLE);
    Refusal.is(due, "resend(1)", Made::withBothAstray, x -> x.resend(1), Due.IMPOSSIBLE);
    due.is("resend(1) of the other", Made.withOneAstray().resend(1), 1);
    FencedStandbys x = Made.withOneAstray();
    x.rebuild(0);
    due.is("resend(0) rebuilt", x.resend(0), 0);
  }

  // Promise 9

  private static void tickRange() {
    Due due = new Due(TICK, "ticks: 1 to 99; INVALID_ARGUMENT if ticks is out of range");
    for (int ticks = 1; ticks <= 99; ticks++) {
      FencedStandbys x = new FencedStandbys();
      due.is("tick(" + ticks + ")", x.tick(ticks), 0);
      due.is("count(1)", x.count(1), Due.tick(ticks));
    }
    Refusal.beside(due, "tick", 1, 99, Made::busy, (x, ticks) -> x.tick(ticks), Due.INVALID);
  }

  private static void tickCount() {
    Due due = new Due(TICK, "Returns how many records are applied in them by both standbys");
    due.is("tick(1) of no records", new FencedStandbys().tick(1), 0);
    due.is("tick(99) of both astray", Made.withBothAstray().tick(99), 0);
    FencedStandbys x = Made.shipped(Made.shipped(Made.full(), 0), 1);
    x.set(0, 20);
    due.is("tick(1): too fresh", x.tick(1), 0);
    due.is("tick(1)", x.tick(1), 40);
    due.is("tick(99): in them, not so far", x.tick(99), 160);
    due.is("tick(99): all are applied", x.tick(99), 0);
    due.is("count(7)", x.count(7), 200);
    FencedStandbys one = Made.shipped(Made.full(), 1);
    due.is("tick(99) of one", one.tick(99), 100);
    due.is("standbyOf(0, 1)", one.standbyOf(0, 1), 0);
    FencedStandbys rebuilt = Made.full();
    rebuilt.rebuild(0);
    due.is("tick(99): a rebuild applies none in ticks", rebuilt.tick(99), 0);
  }

  private static void tickGoesOn() {
    Due due = new Due(TICK, "Lets ticks pass.");
    FencedStandbys x = new FencedStandbys();
    x.tick(99);
    x.tick(1);
    due.is("count(1)", x.count(1), Due.tick(100));
    due.is("tick(100), refused", x.tick(100), Due.INVALID);
    due.is("count(1)", x.count(1), Due.tick(100));
    Due.commitOne(x, 1, 1);
    x.promote(0);
    due.is("count(1): a promotion lets none pass", x.count(1), Due.tick(100));
    x.tick(1);
    x.undo();
    due.is("count(1) undone", x.count(1), Due.tick(100));
  }

  // Promise 10

  private static void promoteCount() {
    Due due = new Due(PROMOTE, "Returns how many commits are lost by that");
    due.is("promote(0) of no records", new FencedStandbys().promote(0), 0);
    FencedStandbys all = new FencedStandbys();
    for (int i = 0; i < 100; i++) {
      all.open(0);
      all.commit(0);
    }
    due.is("promote(1): all of 100", all.promote(1), 100);
    due.is("promote(0): by that, not so far", all.promote(0), 0);
    due.is("count(5)", all.count(5), 100);
    FencedStandbys none = Made.full();
    due.is("promote(1) of 100 puts", none.promote(1), 0);
    FencedStandbys last = new FencedStandbys();
    Due.commitOne(last, 1, 1);
    last.ship(0, 1);
    last.ship(1, 2);
    last.tick(2);
    due.is("promote(0): the commit just behind it", last.promote(0), 1);
    last.undo();
    due.is("promote(1): the commit just at it", last.promote(1), 0);
    FencedStandbys received = new FencedStandbys();
    Due.commitOne(received, 1, 1);
    received.ship(0, 2);
    due.is("promote(0): received is not applied", received.promote(0), 1);
  }

  private static void promoteStandby() {
    Due due = new Due(PROMOTE, "standby: 0 or 1; INVALID_ARGUMENT if standby is out of range");
    due.is("promote(0)", Made.busy().promote(0), 0);
    due.is("promote(1)", Made.busy().promote(1), 0);
    Refusal.beside(due, "promote", 0, 1, Made::busy, (x, standby) -> x.promote(standby), Due.INVALID);
    Refusal.beside(due, "promote", 0, 1, Made::withBothAstray, (x, standby) -> x.promote(standby), Due.INVALID);
  }

  private static void promoteAstray() {
    Due due = new Due(PROMOTE, "NOT_POSSIBLE if it is astray");
    Refusal.is(due, "promote(0)", Made::withOneAstray, x -> x.promote(0), Due.IMPOSSIBLE);
    Refusal.is(due, "promote(1)", Made::withBothAstray, x -> x.promote(1), Due.IMPOSSIBLE);
    Refusal.is(due, "promote(0) at 100", Made::fullWithBothAstray, x -> x.promote(0), Due.IMPOSSIBLE);
    FencedStandbys x = Made.withOneAstray();
    due.is("promote(1) of the other", x.promote(1), 0);
    x.undo();
    x.rebuild(0);
    due.is("promote(0) rebuilt", x.promote(0), 0);
    due.is("count(0)", x.count(0), 5);
  }

  // Promise 11

  private static void rebuildPosition() {
    Due due = new Due(REBUILD, "Rebuilds a standby. Returns its applied position then");
    due.is("rebuild(0) of no records", new FencedStandbys().rebuild(0), 0);
    due.is("rebuild(0)", Made.busy().rebuild(0), 7);
    due.is("rebuild(0) of one that is astray", Made.withOneAstray().rebuild(0), 5);
    due.is("rebuild(1) of one that is astray", Made.withBothAstray().rebuild(1), 4);
    FencedStandbys full = Made.full();
    due.is("rebuild(1) of 100", full.rebuild(1), 100);
    due.is("standbyOf(1, 1)", full.standbyOf(1, 1), 100);
    due.is("rebuild(1) again", full.rebuild(1), 100);
    due.is("count(7): it is not in ticks", full.count(7), 0);
    due.is("count(2): the timeline stays", full.count(2), 1);
    due.is("slotOf(0, 0): the slots stay", full.slotOf(0, 0), 2);
  }

  private static void rebuildStandby() {
    Due due = new Due(REBUILD, "standby: 0 or 1; INVALID_ARGUMENT");
    due.is("rebuild(1)", Made.busy().rebuild(1), 7);
    Refusal.beside(due, "rebuild", 0, 1, Made::busy, (x, standby) -> x.rebuild(standby), Due.INVALID);
    Refusal.beside(due, "rebuild", 0, 1, Made::withBothAstray, (x, standby) -> x.rebuild(standby), Due.INVALID);
  }

  // Promise 12

  private static void setWhat() {
    Due due = new Due(SET, "what: 0 or 1; INVALID_ARGUMENT if an argument is out of range");
    due.is("set(0, 1)", new FencedStandbys().set(0, 1), 4);
    due.is("set(1, 1)", new FencedStandbys().set(1, 1), 2);
    Refusal.beside(due, "set(.., 1)", 0, 1, Made::busy, (x, what) -> x.set(what, 1), Due.INVALID);
    Refusal.is(due, "set(2, 21)", Made::busy, x -> x.set(2, 21), Due.INVALID);
  }

  private static void setValue() {
    Due due = new Due(SET, "value: a value in its range; INVALID_ARGUMENT if an argument is out of range");
    due.is("set(0, 1)", Made.busy().set(0, 1), 3);
    due.is("set(0, 20)", Made.busy().set(0, 20), 3);
    due.is("set(1, 0)", Made.busy().set(1, 0), 2);
    due.is("set(1, 20)", Made.busy().set(1, 20), 2);
    Refusal.is(due, "set(0, 0): a delay, not a rate", Made::busy, x -> x.set(0, 0), Due.INVALID);
    Refusal.beside(due, "set(0, ..)", 1, 20, Made::busy, (x, value) -> x.set(0, value), Due.INVALID);
    Refusal.beside(due, "set(1, ..)", 0, 20, Made::busy, (x, value) -> x.set(1, value), Due.INVALID);
  }

  private static void setWas() {
    Due due = new Due(SET, "Sets a setting. Returns what it was");
    FencedStandbys x = new FencedStandbys();
    due.is("set(0, 4)", x.set(0, 4), 4);
    due.is("set(0, 20)", x.set(0, 20), 4);
    due.is("set(0, 21), refused", x.set(0, 21), Due.INVALID);
    due.is("set(0, 1)", x.set(0, 1), 20);
    due.is("set(1, 20): the other", x.set(1, 20), 2);
    due.is("set(1, 0)", x.set(1, 0), 20);
    due.is("set(1, 3): what was 0", x.set(1, 3), 0);
    x.undo();
    due.is("set(1, 5) when that was undone", x.set(1, 5), 0);
    due.is("set(0, 2)", x.set(0, 2), 1);
    due.is("count(20)", x.count(20), 2);
    due.is("count(21)", x.count(21), 5);
  }
}
