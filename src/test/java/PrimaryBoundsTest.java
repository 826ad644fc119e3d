/** Promises 1 to 5, sentence by sentence, at their boundaries. */
public final class PrimaryBoundsTest {
  private static final String NEW = "promise 1, a new object";
  private static final String OPEN = "promise 2, open";
  private static final String PUT = "promise 3, put";
  private static final String COMMIT = "promise 4, commit";
  private static final String ABORT = "promise 5, abort";

  public static void main(String[] args) {
    withoutRecords();
    objectsApart();
    openNumber();
    openSlot();
    openTwice();
    putNumber();
    putSlot();
    putKey();
    putValue();
    putWithoutTransaction();
    putAtLimit();
    commitNumber();
    commitEmptiesSlot();
    commitSlot();
    commitWithoutTransaction();
    commitAtLimit();
    abortNumber();
    abortEmptiesSlot();
    abortSlot();
    abortWithoutTransaction();
    abortAtLimit();
    Due.end();
  }

  // Promise 1

  private static void withoutRecords() {
    Due due = new Due(NEW, "Creates a store without records.");
    FencedStandbys x = new FencedStandbys();
    due.is("count(0)", x.count(0), 0);
    due.is("recordOf(1, 0)", x.recordOf(1, 0), Due.NONE);
    due.is("serves(0)", x.serves(0), 0);
    due.is("serves(1)", x.serves(1), Due.INVALID);
    due.is("waits(1, 0)", x.waits(1, 0), 0);
    due.is("waits(1, 1)", x.waits(1, 1), Due.INVALID);
    due.is("wouldLose(0)", x.wouldLose(0), 0);
    due.is("rateFor(0, 1)", x.rateFor(0, 1), 1);
    due.is("standbyOf(0, 5)", x.standbyOf(0, 5), 0);
    due.is("standbyOf(0, 6)", x.standbyOf(0, 6), 0);
    due.is("standbyOf(0, 7)", x.standbyOf(0, 7), Due.NONE);
    due.is("standbyOf(0, 8)", x.standbyOf(0, 8), 0);
    for (int key = 0; key < 24; key++) {
      due.is("fence(" + key + ")", x.fence(key), Due.NONE);
    }
    for (int slot = 0; slot < 3; slot++) {
      due.is("slotOf(" + slot + ", 1)", x.slotOf(slot, 1), Due.NONE);
      due.is("primary(" + slot + ", 0)", x.primary(slot, 0), Due.IMPOSSIBLE);
    }
    due.is("tick(99)", x.tick(99), 0);
  }

  private static void objectsApart() {
    Due due = new Due(NEW, "Creates a store without records, whatever other objects have.");
    String first = Look.at(new FencedStandbys());
    FencedStandbys busy = Made.busy();
    due.same("all that is seen of a new one", Look.at(new FencedStandbys()), first);
    FencedStandbys full = Made.full();
    full.set(0, 20);
    due.same("all that is seen of the other", Look.at(busy), Look.at(Made.busy()));
    due.same("all that is seen of a new one", Look.at(new FencedStandbys()), first);
  }

  // Promise 2

  private static void openNumber() {
    Due due = new Due(OPEN, "Opens a transaction. Returns its number");
    FencedStandbys x = new FencedStandbys();
    due.is("open(0)", x.open(0), 1);
    due.is("slotOf(0, 0)", x.slotOf(0, 0), 1);
    x.abort(0);
    due.is("open(0)", x.open(0), 2);
    due.is("open(2)", x.open(2), 3);
    due.is("slotOf(1, 0)", x.slotOf(1, 0), Due.NONE);
    due.is("count(3)", x.count(3), 3);
    due.is("count(0)", x.count(0), 1);
    FencedStandbys many = new FencedStandbys();
    for (int number = 1; number <= 200; number++) {
      due.is("open(1) number " + number, many.open(1), number);
      many.promote(0);
    }
    due.is("open(2) at 100 records, which writes none", Made.full().open(2), 3);
  }

  private static void openSlot() {
    Due due = new Due(OPEN, "slot: 0 to 2; INVALID_ARGUMENT if slot is out of range");
    for (int slot = 0; slot < 3; slot++) {
      due.is("open(" + slot + ")", new FencedStandbys().open(slot), 1);
    }
    Refusal.beside(due, "open", 0, 2, Made::fresh, (x, slot) -> x.open(slot), Due.INVALID);
    Refusal.beside(due, "open", 0, 2, Made::busy, (x, slot) -> x.open(slot), Due.INVALID);
  }

  private static void openTwice() {
    Due due = new Due(OPEN, "NOT_POSSIBLE if the slot has one");
    Refusal.is(due, "open(1)", Made::busy, x -> x.open(1), Due.IMPOSSIBLE);
    Refusal.is(due, "open(2)", Made::busy, x -> x.open(2), Due.IMPOSSIBLE);
    Refusal.is(due, "open(0)", Made::full, x -> x.open(0), Due.IMPOSSIBLE);
    due.is("open(0), which is empty", Made.busy().open(0), 5);
    FencedStandbys x = Made.busy();
    x.commit(1);
    due.is("open(1) behind its commit", x.open(1), 5);
    x.abort(2);
    due.is("open(2) behind its abort", x.open(2), 6);
    due.is("open(2) again", x.open(2), Due.IMPOSSIBLE);
    x.undo();
    due.is("open(2) when that was undone", x.open(2), 6);
  }

  // Promise 3

  private static void putNumber() {
    Due due = new Due(PUT, "Puts a value by a transaction. Returns the number of the record");
    FencedStandbys x = new FencedStandbys();
    x.open(1);
    due.is("put(1, 0, 0)", x.put(1, 0, 0), 1);
    due.is("put(1, 0, 0) once more", x.put(1, 0, 0), 2);
    due.is("slotOf(1, 1)", x.slotOf(1, 1), 2);
    due.is("primary(1, 0)", x.primary(1, 0), 0);
    due.is("put(1, 7, 70)", x.put(1, 7, 70), 3);
    due.is("primary(1, 7)", x.primary(1, 7), 70);
    due.is("primary(-1, 7): it does not count yet", x.primary(-1, 7), 0);
    due.is("the 100th", Due.withPuts(99).put(0, 0, 0), 100);
  }

  private static void putSlot() {
    Due due = new Due(PUT, "slot: 0 to 2; INVALID_ARGUMENT if an argument is out of range");
    for (int slot = 0; slot < 3; slot++) {
      FencedStandbys x = new FencedStandbys();
      x.open(slot);
      due.is("put(" + slot + ", 0, 0)", x.put(slot, 0, 0), 1);
    }
    Refusal.beside(due, "put(.., 0, 0)", 0, 2, Made::busy, (x, slot) -> x.put(slot, 0, 0), Due.INVALID);
  }

  private static void putKey() {
    Due due = new Due(PUT, "key: 0 to 23; INVALID_ARGUMENT if an argument is out of range");
    FencedStandbys x = Made.busy();
    due.is("put(1, 0, 5)", x.put(1, 0, 5), 8);
    due.is("put(1, 23, 6)", x.put(1, 23, 6), 9);
    due.is("primary(1, 0)", x.primary(1, 0), 5);
    due.is("primary(1, 23)", x.primary(1, 23), 6);
    Refusal.beside(due, "put(1, .., 0)", 0, 23, Made::busy, (y, key) -> y.put(1, key, 0), Due.INVALID);
    Refusal.beside(due, "put(0, .., 0)", 0, 23, Made::busy, (y, key) -> y.put(0, key, 0), Due.INVALID);
  }

  private static void putValue() {
    Due due = new Due(PUT, "value: 0 to 999; INVALID_ARGUMENT if an argument is out of range");
    FencedStandbys x = Made.busy();
    due.is("put(1, 3, 999)", x.put(1, 3, 999), 8);
    due.is("primary(1, 3)", x.primary(1, 3), 999);
    due.is("put(1, 3, 0)", x.put(1, 3, 0), 9);
    due.is("primary(1, 3)", x.primary(1, 3), 0);
    due.is("put(1, 3, 256)", x.put(1, 3, 256), 10);
    due.is("primary(1, 3)", x.primary(1, 3), 256);
    Refusal.below(due, "put(1, 0, ..)", 0, Made::busy, (y, value) -> y.put(1, 0, value), Due.INVALID);
    for (int value : new int[] {1000, 1001, 65536, Integer.MAX_VALUE}) {
      Refusal.is(due, "put(1, 0, " + value + ")", Made::busy, y -> y.put(1, 0, value), Due.INVALID);
    }
  }

  private static void putWithoutTransaction() {
    Due due = new Due(PUT, "NOT_POSSIBLE if the slot has no transaction");
    Refusal.is(due, "put(0, 0, 0)", Made::fresh, x -> x.put(0, 0, 0), Due.IMPOSSIBLE);
    Refusal.is(due, "put(0, 0, 0)", Made::busy, x -> x.put(0, 0, 0), Due.IMPOSSIBLE);
    Refusal.is(due, "put(2, 0, 0) at 100 records", Made::full, x -> x.put(2, 0, 0), Due.IMPOSSIBLE);
    FencedStandbys x = Made.busy();
    x.commit(1);
    due.is("put(1, 0, 0) behind its commit", x.put(1, 0, 0), Due.IMPOSSIBLE);
    x.abort(2);
    due.is("put(2, 0, 0) behind its abort", x.put(2, 0, 0), Due.IMPOSSIBLE);
    FencedStandbys promoted = Made.busy();
    promoted.promote(0);
    due.is("put(1, 0, 0) behind a promotion", promoted.put(1, 0, 0), Due.IMPOSSIBLE);
  }

  private static void putAtLimit() {
    Due due = new Due(PUT, "LIMIT_REACHED if there are 100 records");
    Refusal.is(due, "put(0, 0, 0) at 100", Made::full, x -> x.put(0, 0, 0), Due.LIMIT);
    Refusal.is(due, "put(1, 23, 999) at 100", Made::full, x -> x.put(1, 23, 999), Due.LIMIT);
    due.is("put(0, 0, 0) at 99", Due.withPuts(99).put(0, 0, 0), 100);
    FencedStandbys ended = Due.withPuts(99);
    ended.abort(0);
    ended.open(0);
    due.is("put(0, 0, 0) when an abort is the 100th", ended.put(0, 0, 0), Due.LIMIT);
  }

  // Promise 4

  private static void commitNumber() {
    Due due = new Due(COMMIT, "Commits a transaction. Returns the number of the record");
    FencedStandbys x = new FencedStandbys();
    x.open(0);
    due.is("commit(0) of no puts", x.commit(0), 1);
    due.is("count(4)", x.count(4), 1);
    x.open(0);
    x.open(1);
    x.put(0, 1, 5);
    x.put(1, 1, 6);
    due.is("commit(0)", x.commit(0), 4);
    due.is("recordOf(4, 1)", x.recordOf(4, 1), 2);
    due.is("primary(-1, 1)", x.primary(-1, 1), 5);
    due.is("commit(1)", x.commit(1), 5);
    due.is("primary(-1, 1)", x.primary(-1, 1), 6);
  }

  private static void commitEmptiesSlot() {
    Due due = new Due(COMMIT, "the slot is empty then");
    FencedStandbys x = Made.busy();
    x.commit(2);
    due.is("slotOf(2, 0)", x.slotOf(2, 0), Due.NONE);
    due.is("slotOf(1, 0): the others stay", x.slotOf(1, 0), 2);
    due.is("primary(2, 4)", x.primary(2, 4), Due.IMPOSSIBLE);
    due.is("commit(2) again", x.commit(2), Due.IMPOSSIBLE);
    due.is("open(2)", x.open(2), 5);
    due.is("slotOf(2, 1)", x.slotOf(2, 1), 0);
    FencedStandbys last = Due.withPuts(99);
    last.commit(0);
    due.is("slotOf(0, 0) behind the 100th record", last.slotOf(0, 0), Due.NONE);
  }

  private static void commitSlot() {
    Due due = new Due(COMMIT, "slot: 0 to 2; INVALID_ARGUMENT if slot is out of range");
    for (int slot = 0; slot < 3; slot++) {
      FencedStandbys x = new FencedStandbys();
      x.open(slot);
      due.is("commit(" + slot + ")", x.commit(slot), 1);
    }
    Refusal.beside(due, "commit", 0, 2, Made::busy, (x, slot) -> x.commit(slot), Due.INVALID);
    Refusal.beside(due, "commit at 100", 0, 2, Made::full, (x, slot) -> x.commit(slot), Due.INVALID);
  }

  private static void commitWithoutTransaction() {
    Due due = new Due(COMMIT, "NOT_POSSIBLE if it has no transaction");
    Refusal.is(due, "commit(0)", Made::fresh, x -> x.commit(0), Due.IMPOSSIBLE);
    Refusal.is(due, "commit(0)", Made::busy, x -> x.commit(0), Due.IMPOSSIBLE);
    Refusal.is(due, "commit(2) at 100", Made::full, x -> x.commit(2), Due.IMPOSSIBLE);
    Refusal.is(due, "commit(1) behind a promotion", PrimaryBoundsTest::promoted, x -> x.commit(1), Due.IMPOSSIBLE);
  }

  private static FencedStandbys promoted() {
    FencedStandbys x = Made.busy();
    x.promote(0);
    return x;
  }

  private static void commitAtLimit() {
    Due due = new Due(COMMIT, "LIMIT_REACHED if there are 100 records");
    Refusal.is(due, "commit(0) at 100", Made::full, x -> x.commit(0), Due.LIMIT);
    Refusal.is(due, "commit(1) at 100, of no puts", Made::full, x -> x.commit(1), Due.LIMIT);
    FencedStandbys x = Due.withPuts(99);
    due.is("commit(0) at 99", x.commit(0), 100);
    due.is("primary(-1, 1)", x.primary(-1, 1), 97);
    due.is("fence(2)", x.fence(2), 100);
  }

  // Promise 5

  private static void abortNumber() {
    Due due = new Due(ABORT, "Aborts a transaction. Returns the number of the record");
    FencedStandbys x = new FencedStandbys();
    x.open(0);
    due.is("abort(0) of no puts", x.abort(0), 1);
    due.is("recordOf(1, 0)", x.recordOf(1, 0), 2);
    due.is("count(4): it is no commit", x.count(4), 0);
    x.open(0);
    x.open(1);
    x.put(0, 1, 5);
    x.put(1, 1, 6);
    due.is("abort(1)", x.abort(1), 4);
    due.is("recordOf(4, 1)", x.recordOf(4, 1), 3);
    due.is("primary(-1, 1)", x.primary(-1, 1), 0);
    due.is("commit(0) of the other", x.commit(0), 5);
    due.is("primary(-1, 1)", x.primary(-1, 1), 5);
    due.is("fence(1)", x.fence(1), 5);
  }

  private static void abortEmptiesSlot() {
    Due due = new Due(ABORT, "the slot is empty then");
    FencedStandbys x = Made.busy();
    x.abort(1);
    due.is("slotOf(1, 0)", x.slotOf(1, 0), Due.NONE);
    due.is("slotOf(2, 0): the others stay", x.slotOf(2, 0), 4);
    due.is("primary(1, 1)", x.primary(1, 1), Due.IMPOSSIBLE);
    due.is("abort(1) again", x.abort(1), Due.IMPOSSIBLE);
    due.is("commit(1)", x.commit(1), Due.IMPOSSIBLE);
    due.is("open(1)", x.open(1), 5);
    FencedStandbys last = Due.withPuts(99);
    last.abort(0);
    due.is("slotOf(0, 0) behind the 100th record", last.slotOf(0, 0), Due.NONE);
  }

  private static void abortSlot() {
    Due due = new Due(ABORT, "slot: 0 to 2; INVALID_ARGUMENT if slot is out of range");
    for (int slot = 0; slot < 3; slot++) {
      FencedStandbys x = new FencedStandbys();
      x.open(slot);
      due.is("abort(" + slot + ")", x.abort(slot), 1);
    }
    Refusal.beside(due, "abort", 0, 2, Made::busy, (x, slot) -> x.abort(slot), Due.INVALID);
    Refusal.beside(due, "abort at 100", 0, 2, Made::full, (x, slot) -> x.abort(slot), Due.INVALID);
  }

  private static void abortWithoutTransaction() {
    Due due = new Due(ABORT, "NOT_POSSIBLE if it has no transaction");
    Refusal.is(due, "abort(0)", Made::fresh, x -> x.abort(0), Due.IMPOSSIBLE);
    Refusal.is(due, "abort(0)", Made::busy, x -> x.abort(0), Due.IMPOSSIBLE);
    Refusal.is(due, "abort(2) at 100", Made::full, x -> x.abort(2), Due.IMPOSSIBLE);
    Refusal.is(due, "abort(2) behind a promotion", PrimaryBoundsTest::promoted, x -> x.abort(2), Due.IMPOSSIBLE);
  }

  private static void abortAtLimit() {
    Due due = new Due(ABORT, "LIMIT_REACHED if there are 100 records");
    Refusal.is(due, "abort(0) at 100", Made::full, x -> x.abort(0), Due.LIMIT);
    Refusal.is(due, "abort(1) at 100, of no puts", Made::full, x -> x.abort(1), Due.LIMIT);
    due.is("abort(0) at 99", Due.withPuts(99).abort(0), 100);
  }
}
