import java.util.function.ToIntFunction;

/** The document's terms "Changes and errors", sentence by sentence, at their boundaries, and how long an object lives. */
public final class ErrorTermsTest {
  private static final String ERRORS = "terms, Changes and errors";

  public static void main(String[] args) {
    changes();
    changesThatMoveNothing();
    noChanges();
    refusedIsNoChange();
    atMostStates();
    everythingBefore();
    everythingBeforeAtTheEnds();
    allButTheText();
    oldestIsDropped();
    invalidRatherThanNotPossible();
    invalidRatherThanLimit();
    invalidRatherThanNotFound();
    notPossibleRatherThanLimit();
    notPossibleRatherThanNotFound();
    refusedPutsAndOpens();
    refusedOnStandbys();
    refusedQuestions();
    refusedTexts();
    noSuchNumber();
    constants();
    callsOfOneObject();
    longestText();
    Due.end();
  }

  private interface Call extends ToIntFunction<FencedStandbys> {
  }

  /** A change of each kind that is possible at Made.busy() and moves something. */
  private static Call[] changesOfBusy() {
    return new Call[] {x -> x.open(0), x -> x.put(1, 2, 21), x -> x.commit(1), x -> x.abort(2), x -> x.ship(0, 1),
        x -> x.lose(0, 6), x -> x.resend(0), x -> x.tick(1), x -> x.promote(1), x -> x.rebuild(1), x -> x.set(0, 1),
        x -> x.set(1, 0), x -> x.play()};
  }

  private static void changes() {
    Due due = new Due(ERRORS, "The changes are the calls of open, put, commit, abort, ship, lose, resend, tick, promote,"
        + " rebuild, set and play that return no error.");
    Call[] calls = changesOfBusy();
    for (int kind = 0; kind < calls.length; kind++) {
      FencedStandbys x = Made.busy();
      x.undo();
      due.is("count(8) ahead of the change " + kind, x.count(8), 3);
      String before = Look.atState(x);
      due.is("the change " + kind + " returns no error", calls[kind].applyAsInt(x) >= 0 ? 1 : 0, 1);
      due.is("the change " + kind + " is seen", Look.atState(x).equals(before) ? 1 : 0, 0);
      due.is("count(8) behind the change " + kind, x.count(8), 4);
      due.is("undo() of the change " + kind, x.undo(), 3);
      due.same("all that is seen behind undo() of the change " + kind, Look.atState(x), before);
    }
  }

  private static void changesThatMoveNothing() {
    Due due = new Due(ERRORS, "The changes are the calls that return no error, also where nothing is other than before.");
    Call[] calls = {x -> x.ship(0, 1), x -> x.resend(1), x -> x.rebuild(1), x -> x.set(0, 4), x -> x.set(1, 2),
        x -> x.play()};
    int[] answers = {0, 0, 0, 4, 2, 0};
    for (int kind = 0; kind < calls.length; kind++) {
      FencedStandbys x = new FencedStandbys();
      String before = Look.atState(x);
      due.is("the change " + kind, calls[kind].applyAsInt(x), answers[kind]);
      due.same("all that is seen behind it", Look.atState(x), before);
      due.is("count(8) behind the change " + kind, x.count(8), 1);
      due.is("undo()", x.undo(), 0);
      due.is("undo() again", x.undo(), Due.IMPOSSIBLE);
    }
  }

  private static void noChanges() {
    Due due = new Due(ERRORS, "The changes are the calls of open .. and play, and no others.");
    Call[] calls = {x -> x.read(0, 1, 0), x -> x.primary(-1, 1), x -> x.primary(1, 1), x -> x.serves(0), x -> x.fence(1),
        x -> x.recordOf(1, 0), x -> x.standbyOf(0, 8), x -> x.slotOf(1, 1), x -> x.waits(0, 4), x -> x.wouldLose(0),
        x -> x.rateFor(0, 9), x -> x.count(0), x -> x.fault(0)};
    for (int kind = 0; kind < calls.length; kind++) {
      FencedStandbys x = Made.busy();
      calls[kind].applyAsInt(x);
      due.same("all that is seen behind the question " + kind, Look.at(x), Look.at(Made.busy()));
    }
    FencedStandbys x = Made.busy();
    x.undo();
    x.type('x');
    due.is("count(8) behind type('x')", x.count(8), 3);
    x.clearText();
    due.is("count(8) behind clearText()", x.count(8), 3);
    due.is("undo(), which is no change", x.undo(), 2);
    due.is("count(8) behind undo()", x.count(8), 2);
  }

  private static void refusedIsNoChange() {
    Due due = new Due(ERRORS, "The changes are the calls that return no error.");
    Call[] calls = {x -> x.open(1), x -> x.put(0, 0, 0), x -> x.commit(0), x -> x.abort(0), x -> x.ship(0, 21),
        x -> x.lose(0, 5), x -> x.resend(2), x -> x.tick(0), x -> x.promote(2), x -> x.rebuild(2), x -> x.set(0, 0)};
    for (int kind = 0; kind < calls.length; kind++) {
      FencedStandbys x = Made.busy();
      x.undo();
      x.undo();
      due.is("the call " + kind + " is refused", calls[kind].applyAsInt(x) < 0 ? 1 : 0, 1);
      due.is("count(8) behind it", x.count(8), 2);
    }
  }

  private static void atMostStates() {
    Due due = new Due(ERRORS, "A history of at most 4 states is kept");
    FencedStandbys x = new FencedStandbys();
    due.is("count(8) at first", x.count(8), 0);
    int[] want = {1, 2, 3, 4, 4, 4, 4, 4, 4};
    for (int i = 0; i < want.length; i++) {
      x.tick(1);
      due.is("count(8) behind " + (i + 1) + " changes", x.count(8), want[i]);
    }
    for (int left = 3; left >= 0; left--) {
      due.is("undo()", x.undo(), left);
      due.is("count(8)", x.count(8), left);
    }
    due.is("undo() of none", x.undo(), Due.IMPOSSIBLE);
    due.is("count(1): 4 of 9 ticks came back", x.count(1), Due.tick(5));
  }

  private static void everythingBefore() {
    Due due = new Due(ERRORS, "each change records everything before it");
    // Each comes behind more changes than are kept, so that the place of an older state is used again for it.
    Call[] calls = changesOfBusy();
    for (int first = 0; first < calls.length; first++) {
      for (int second = 0; second < calls.length; second++) {
        FencedStandbys x = Made.busy();
        FencedStandbys between = Made.busy();
        due.is("the change " + first + " returns no error", calls[first].applyAsInt(x) >= 0 ? 1 : 0, 1);
        calls[first].applyAsInt(between);
        boolean isDone = calls[second].applyAsInt(x) >= 0;
        if (isDone) {
          due.is("undo() of the change " + second, x.undo(), 3);
        }
        due.same("all that is seen ahead of the change " + second, Look.atState(x), Look.atState(between));
        due.is("undo() of the change " + first, x.undo(), isDone ? 2 : 3);
        due.same("all that is seen ahead of the change " + first, Look.atState(x), Look.atState(Made.busy()));
      }
    }
  }

  private static void everythingBeforeAtTheEnds() {
    Due due = new Due(ERRORS, "each change records everything before it, of 100 records too");
    for (int standby = 0; standby < 2; standby++) {
      for (int record : new int[] {1, 2, 99, 100}) {
        FencedStandbys x = Made.shipped(Made.full(), standby);
        x.lose(standby, record);
        x.undo();
        due.is("standbyOf(.., 2) behind undo() of lose(.., " + record + ")", x.standbyOf(standby, 2), 0);
        x.lose(standby, record);
        x.resend(standby);
        x.undo();
        due.is("standbyOf(.., 3) behind undo() of resend", x.standbyOf(standby, 3), record);
        x.promote(standby);
        x.undo();
        due.is("standbyOf(.., 3) behind undo() of promote", x.standbyOf(standby, 3), record);
        due.is("slotOf(0, 1)", x.slotOf(0, 1), 100);
        due.is("recordOf(1, 1)", x.recordOf(1, 1), 2);
        due.is("recordOf(100, 3)", x.recordOf(100, 3), 99);
        x.rebuild(standby);
        x.undo();
        due.is("standbyOf(.., 1) behind undo() of rebuild", x.standbyOf(standby, 1), 0);
      }
    }
    FencedStandbys slots = new FencedStandbys();
    for (int slot = 0; slot < 3; slot++) {
      slots.open(slot);
    }
    slots.promote(0);
    slots.undo();
    for (int slot = 0; slot < 3; slot++) {
      due.is("slotOf(" + slot + ", 0) behind undo() of promote", slots.slotOf(slot, 0), slot + 1);
    }
  }

  private static void allButTheText() {
    Due due = new Due(ERRORS, "each change records everything before it but the text");
    FencedStandbys x = Due.withText("t5;");
    x.play();
    x.type('t');
    x.tick(1);
    x.type('6');
    x.undo();
    due.is("count(9): typed behind the change", x.count(9), 5);
    due.is("fault(0)", x.fault(0), 3);
    x.type(';');
    x.undo();
    due.is("count(9)", x.count(9), 6);
    due.is("count(1)", x.count(1), Due.tick(0));
    due.is("play() of all that was typed", x.play(), 2);
    due.is("count(1)", x.count(1), Due.tick(11));
    x.clearText();
    x.undo();
    due.is("count(9): an emptied text stays empty", x.count(9), 0);
  }

  private static void oldestIsDropped() {
    Due due = new Due(ERRORS, "and if there are 5 states then, the oldest one is dropped");
    for (int changes = 1; changes <= 12; changes++) {
      FencedStandbys x = new FencedStandbys();
      for (int i = 0; i < changes; i++) {
        x.tick(1);
      }
      int states = Math.min(4, changes);
      due.is("count(8) behind " + changes, x.count(8), states);
      for (int back = 1; back <= states; back++) {
        due.is("undo()", x.undo(), states - back);
        due.is("count(1) behind " + changes + " ticks and " + back + " undos", x.count(1), Due.tick(changes - back));
      }
      due.is("undo() of one that was dropped", x.undo(), Due.IMPOSSIBLE);
      x.tick(7);
      due.is("count(8) behind a change then", x.count(8), 1);
      due.is("undo()", x.undo(), 0);
      due.is("count(1)", x.count(1), Due.tick(changes - states));
    }
    FencedStandbys mixed = new FencedStandbys();
    for (int tick = 1; tick <= 5; tick++) {
      mixed.tick(1);
    }
    mixed.undo();
    mixed.undo();
    mixed.tick(10);
    mixed.tick(20);
    mixed.tick(30);
    due.is("count(8) behind undos and changes", mixed.count(8), 4);
    int[] want = {33, 13, 3, 2};
    for (int back = 0; back < 4; back++) {
      mixed.undo();
      due.is("count(1) behind " + (back + 1) + " undos", mixed.count(1), Due.tick(want[back]));
    }
    due.is("undo()", mixed.undo(), Due.IMPOSSIBLE);
  }

  private static void invalidRatherThanNotPossible() {
    Due due = new Due(ERRORS, "If several errors apply to a call, INVALID_ARGUMENT is returned rather than NOT_POSSIBLE");
    Refusal.is(due, "put into an empty slot, key 24", Made::busy, x -> x.put(0, 24, 0), Due.INVALID);
    Refusal.is(due, "put into an empty slot, value 1000", Made::busy, x -> x.put(0, 0, 1000), Due.INVALID);
    Refusal.is(due, "ship to one astray, many 0", Made::withOneAstray, x -> x.ship(0, 0), Due.INVALID);
    Refusal.is(due, "ship to one astray, many 21", Made::withOneAstray, x -> x.ship(0, 21), Due.INVALID);
    Refusal.is(due, "lose of one astray, record 0", Made::withOneAstray, x -> x.lose(0, 0), Due.INVALID);
    Refusal.is(due, "read at one astray, fence 6", Made::withOneAstray, x -> x.read(0, 0, 6), Due.INVALID);
    Refusal.is(due, "read at one astray, key 24", Made::withOneAstray, x -> x.read(0, 24, 0), Due.INVALID);
    Refusal.is(due, "read that sees too little, key -1", Made::busy, x -> x.read(1, -1, 7), Due.INVALID);
    Refusal.is(due, "primary by an empty slot, key 24", Made::busy, x -> x.primary(0, 24), Due.INVALID);
    Refusal.is(due, "primary by an empty slot, key -1", Made::busy, x -> x.primary(0, -1), Due.INVALID);
    Refusal.is(due, "waits of one astray, fence 6", Made::withOneAstray, x -> x.waits(0, 6), Due.INVALID);
    Refusal.is(due, "waits of one astray, fence -1", Made::withOneAstray, x -> x.waits(0, -1), Due.INVALID);
    Refusal.is(due, "rateFor one astray, ticks 0", Made::withOneAstray, x -> x.rateFor(0, 0), Due.INVALID);
    Refusal.is(due, "rateFor one astray, ticks 100", Made::withOneAstray, x -> x.rateFor(0, 100), Due.INVALID);
  }

  private static void invalidRatherThanLimit() {
    Due due = new Due(ERRORS, "If several errors apply to a call, INVALID_ARGUMENT is returned rather than LIMIT_REACHED");
    Refusal.is(due, "put(3, 0, 0)", Made::full, x -> x.put(3, 0, 0), Due.INVALID);
    Refusal.is(due, "put(0, 24, 0)", Made::full, x -> x.put(0, 24, 0), Due.INVALID);
    Refusal.is(due, "put(0, 0, -1)", Made::full, x -> x.put(0, 0, -1), Due.INVALID);
    Refusal.is(due, "put(2, 0, -1), also empty", Made::full, x -> x.put(2, 0, -1), Due.INVALID);
    Refusal.is(due, "commit(3)", Made::full, x -> x.commit(3), Due.INVALID);
    Refusal.is(due, "abort(-1)", Made::full, x -> x.abort(-1), Due.INVALID);
    Refusal.is(due, "type(31) at 60", () -> Due.withText("o".repeat(60)), x -> x.type(31), Due.INVALID);
    Refusal.is(due, "type(127) at 60", () -> Due.withText("o".repeat(60)), x -> x.type(127), Due.INVALID);
  }

  private static void invalidRatherThanNotFound() {
    Due due = new Due(ERRORS, "If several errors apply to a call, INVALID_ARGUMENT is returned rather than NOT_FOUND");
    Refusal.is(due, "serves(5) of 4 records, all astray", Made::withBothAstray, x -> x.serves(5), Due.INVALID);
    Refusal.is(due, "serves(-1), all astray", Made::withBothAstray, x -> x.serves(-1), Due.INVALID);
    Refusal.is(due, "fence(24) of no records", Made::fresh, x -> x.fence(24), Due.INVALID);
    Refusal.is(due, "recordOf(8, 5) of 7", Made::busy, x -> x.recordOf(8, 5), Due.INVALID);
    Refusal.is(due, "recordOf(3, -1) of a commit", Made::busy, x -> x.recordOf(3, -1), Due.INVALID);
    Refusal.is(due, "recordOf(0, 2)", Made::fresh, x -> x.recordOf(0, 2), Due.INVALID);
    Refusal.is(due, "standbyOf(2, 3) of no gap", Made::fresh, x -> x.standbyOf(2, 3), Due.INVALID);
    Refusal.is(due, "standbyOf(-1, 7)", Made::fresh, x -> x.standbyOf(-1, 7), Due.INVALID);
    Refusal.is(due, "slotOf(0, 2) of an empty slot", Made::busy, x -> x.slotOf(0, 2), Due.INVALID);
    Refusal.is(due, "slotOf(0, -1) of an empty slot", Made::busy, x -> x.slotOf(0, -1), Due.INVALID);
    Refusal.is(due, "waits(1, 8)", Made::busy, x -> x.waits(1, 8), Due.INVALID);
    Refusal.is(due, "rateFor(0, 100)", Made::full, x -> x.rateFor(0, 100), Due.INVALID);
    Refusal.is(due, "fault(3) of no fault", Made::fresh, x -> x.fault(3), Due.INVALID);
    Refusal.is(due, "fault(-1) of no fault", Made::fresh, x -> x.fault(-1), Due.INVALID);
  }

  private static void notPossibleRatherThanLimit() {
    Due due = new Due(ERRORS, "NOT_POSSIBLE rather than LIMIT_REACHED");
    Refusal.is(due, "put(2, 0, 0)", Made::full, x -> x.put(2, 0, 0), Due.IMPOSSIBLE);
    Refusal.is(due, "commit(2)", Made::full, x -> x.commit(2), Due.IMPOSSIBLE);
    Refusal.is(due, "abort(2)", Made::full, x -> x.abort(2), Due.IMPOSSIBLE);
    Refusal.is(due, "put(0, 0, 0)", Made::full, x -> x.put(0, 0, 0), Due.LIMIT);
    Refusal.is(due, "commit(0)", Made::full, x -> x.commit(0), Due.LIMIT);
    Refusal.is(due, "abort(0)", Made::full, x -> x.abort(0), Due.LIMIT);
    Refusal.is(due, "commit(1)", Made::full, x -> x.commit(1), Due.LIMIT);
    Refusal.is(due, "abort(1)", Made::full, x -> x.abort(1), Due.LIMIT);
  }

  private static void notPossibleRatherThanNotFound() {
    Due due = new Due(ERRORS, "NOT_POSSIBLE rather than LIMIT_REACHED, and LIMIT_REACHED rather than NOT_FOUND");
    Refusal.is(due, "waits(0, 100)", Made::fullWithBothAstray, x -> x.waits(0, 100), Due.IMPOSSIBLE);
    Refusal.is(due, "waits(0, 0)", Made::fullWithBothAstray, x -> x.waits(0, 0), Due.IMPOSSIBLE);
    Refusal.is(due, "waits(1, 100)", Made::full, x -> x.waits(1, 100), Due.NONE);
    Refusal.is(due, "rateFor(1, 1)", Made::fullWithBothAstray, x -> x.rateFor(1, 1), Due.IMPOSSIBLE);
    Refusal.is(due, "rateFor(0, 1)", () -> Made.shipped(Made.full(), 0), x -> x.rateFor(0, 1), Due.NONE);
  }

  private static void refusedPutsAndOpens() {
    Due due = new Due(ERRORS, "A call that returns an error changes nothing. (open, put, commit, abort)");
    Refusal.is(due, "open(1)", Made::busy, x -> x.open(1), Due.IMPOSSIBLE);
    Refusal.is(due, "open(3)", Made::busy, x -> x.open(3), Due.INVALID);
    Refusal.is(due, "put(0, 1, 1)", Made::busy, x -> x.put(0, 1, 1), Due.IMPOSSIBLE);
    Refusal.is(due, "put(1, 1, 1000)", Made::busy, x -> x.put(1, 1, 1000), Due.INVALID);
    Refusal.is(due, "commit(0)", Made::busy, x -> x.commit(0), Due.IMPOSSIBLE);
    Refusal.is(due, "abort(0)", Made::busy, x -> x.abort(0), Due.IMPOSSIBLE);
    Refusal.is(due, "put(0, 1, 1) at 100", Made::full, x -> x.put(0, 1, 1), Due.LIMIT);
    Refusal.is(due, "commit(0) at 100", Made::full, x -> x.commit(0), Due.LIMIT);
    Refusal.is(due, "abort(1) at 100", Made::full, x -> x.abort(1), Due.LIMIT);
  }

  private static void refusedOnStandbys() {
    Due due = new Due(ERRORS, "A call that returns an error changes nothing. (ship .. set)");
    Refusal.is(due, "ship(1, 21)", Made::busy, x -> x.ship(1, 21), Due.INVALID);
    Refusal.is(due, "ship(0, 1)", Made::withOneAstray, x -> x.ship(0, 1), Due.IMPOSSIBLE);
    Refusal.is(due, "lose(0, 4)", Made::busy, x -> x.lose(0, 4), Due.IMPOSSIBLE);
    Refusal.is(due, "lose(0, 5)", Made::busy, x -> x.lose(0, 5), Due.IMPOSSIBLE);
    Refusal.is(due, "lose(0, 7)", Made::busy, x -> x.lose(0, 7), Due.IMPOSSIBLE);
    Refusal.is(due, "lose(0, 0)", Made::busy, x -> x.lose(0, 0), Due.INVALID);
    Refusal.is(due, "resend(0)", Made::withOneAstray, x -> x.resend(0), Due.IMPOSSIBLE);
    Refusal.is(due, "tick(0)", Made::busy, x -> x.tick(0), Due.INVALID);
    Refusal.is(due, "tick(100)", Made::busy, x -> x.tick(100), Due.INVALID);
    Refusal.is(due, "promote(0)", Made::withOneAstray, x -> x.promote(0), Due.IMPOSSIBLE);
    Refusal.is(due, "rebuild(2)", Made::busy, x -> x.rebuild(2), Due.INVALID);
    Refusal.is(due, "set(0, 0)", Made::busy, x -> x.set(0, 0), Due.INVALID);
    Refusal.is(due, "set(1, 21)", Made::busy, x -> x.set(1, 21), Due.INVALID);
  }

  private static void refusedQuestions() {
    Due due = new Due(ERRORS, "A call that returns an error changes nothing. (reads, what there is, what would be)");
    Refusal.is(due, "read(0, 1, 5)", Made::busy, x -> x.read(0, 1, 5), Due.IMPOSSIBLE);
    Refusal.is(due, "primary(0, 1)", Made::busy, x -> x.primary(0, 1), Due.IMPOSSIBLE);
    Refusal.is(due, "serves(5)", Made::busy, x -> x.serves(5), Due.NONE);
    Refusal.is(due, "fence(3)", Made::busy, x -> x.fence(3), Due.NONE);
    Refusal.is(due, "recordOf(8, 0)", Made::busy, x -> x.recordOf(8, 0), Due.NONE);
    Refusal.is(due, "standbyOf(0, 3)", Made::withOneAstray, x -> x.standbyOf(0, 3), Due.NONE);
    Refusal.is(due, "slotOf(0, 0)", Made::busy, x -> x.slotOf(0, 0), Due.NONE);
    Refusal.is(due, "waits(0, 5)", Made::busy, x -> x.waits(0, 5), Due.NONE);
    Refusal.is(due, "wouldLose(0)", Made::withOneAstray, x -> x.wouldLose(0), Due.IMPOSSIBLE);
    Refusal.is(due, "rateFor(0, 4)", () -> Made.shipped(Made.full(), 0), x -> x.rateFor(0, 4), Due.NONE);
    Refusal.is(due, "count(10)", Made::busy, x -> x.count(10), Due.INVALID);
    Refusal.is(due, "undo()", Made::fresh, x -> x.undo(), Due.IMPOSSIBLE);
  }

  private static void refusedTexts() {
    Due due = new Due(ERRORS, "A call that returns an error changes nothing. (texts)");
    Refusal.is(due, "type(127)", Made::busy, x -> x.type(127), Due.INVALID);
    Refusal.is(due, "type('o') at 60", () -> Due.withText("t1;".repeat(20)), x -> x.type('o'), Due.LIMIT);
    Refusal.is(due, "fault(3)", Made::busy, x -> x.fault(3), Due.INVALID);
    Refusal.is(due, "fault(0) of none", Made::busy, x -> x.fault(0), Due.NONE);
    Refusal.is(due, "play() with a fault of form", () -> busyWith("t9;o0;p1,2=3;s0,1;x"), x -> x.play(), Due.IMPOSSIBLE);
    Refusal.is(due, "play() with a fault of a call", () -> busyWith("t9;c1;o0;s0,9;c0;c0;"), x -> x.play(), Due.IMPOSSIBLE);
    Refusal.is(due, "play() over the limit", () -> fullBut(1, "p0,1=1;p0,1=2;"), x -> x.play(), Due.IMPOSSIBLE);
  }

  private static FencedStandbys busyWith(String text) {
    FencedStandbys x = Made.busy();
    Due.typeAll(x, text);
    return x;
  }

  private static FencedStandbys fullBut(int records, String text) {
    FencedStandbys x = Due.withPuts(100 - records);
    Due.typeAll(x, text);
    return x;
  }

  private static void noSuchNumber() {
    Due due = new Due(ERRORS, "If there is no slot, key or standby with a certain number, this is INVALID_ARGUMENT.");
    Refusal.beside(due, "open", 0, 2, Made::busy, (x, slot) -> x.open(slot), Due.INVALID);
    Refusal.beside(due, "slotOf", 0, 2, Made::busy, (x, slot) -> x.slotOf(slot, 0), Due.INVALID);
    Refusal.beside(due, "fence", 0, 23, Made::busy, (x, key) -> x.fence(key), Due.INVALID);
    Refusal.beside(due, "put", 0, 23, Made::busy, (x, key) -> x.put(1, key, 0), Due.INVALID);
    Refusal.beside(due, "rebuild", 0, 1, Made::busy, (x, standby) -> x.rebuild(standby), Due.INVALID);
    Refusal.beside(due, "promote", 0, 1, Made::busy, (x, standby) -> x.promote(standby), Due.INVALID);
    FencedStandbys x = Due.withText("o3;");
    due.is("fault(2) of a slot that there is not", x.fault(2), Due.INVALID);
    Due.typeAll(x, "s2,1;");
    due.is("fault(2) of a standby that there is not", x.fault(2), Due.INVALID);
    Due.typeAll(x, "o0;p0,24=1;");
    due.is("fault(2) of a key that there is not", x.fault(2), Due.INVALID);
  }

  private static void constants() {
    Due due = new Due(ERRORS, "The constants");
    due.is("INVALID_ARGUMENT", FencedStandbys.INVALID_ARGUMENT, -1000001);
    due.is("NOT_POSSIBLE", FencedStandbys.NOT_POSSIBLE, -1000002);
    due.is("LIMIT_REACHED", FencedStandbys.LIMIT_REACHED, -1000003);
    due.is("NOT_FOUND", FencedStandbys.NOT_FOUND, -1000004);
  }

  private static void callsOfOneObject() {
    Due due = new Due("what it is", "An object is used for at most 512 calls after it has been made");
    FencedStandbys x = new FencedStandbys();
    for (int call = 1; call <= 510; call++) {
      due.is("tick(99) as the call " + call, x.tick(99), 0);
    }
    due.is("undo() as the call 511", x.undo(), 3);
    due.is("count(1) as the call 512", x.count(1), Due.tick(509 * 99));
  }

  private static void longestText() {
    Due due = new Due("what it is", "An object is used for at most 512 calls, of the dearest kind");
    FencedStandbys x = new FencedStandbys();
    String text = "t99;".repeat(15);
    for (int i = 0; i < text.length(); i++) {
      x.type(text.charAt(i));
    }
    for (int call = 61; call <= 511; call++) {
      due.is("play() as the call " + call, x.play(), 15);
    }
    due.is("count(1) as the call 512", x.count(1), Due.tick(451 * 15 * 99));
  }
}
