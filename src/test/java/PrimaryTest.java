/** Promises 1 to 5. */
public final class PrimaryTest {
  public static void main(String[] args) {
    newObject();
    firstTick();
    open();
    put();
    commit();
    abort();
    Due.end();
  }

  private static void newObject() {
    Due due = new Due("promise 1, a new object");
    FencedStandbys x = new FencedStandbys();
    int[] first = {0, Due.tick(0), 1, 0, 0, 0, 0, 0, 0, 0};
    for (int what = 0; what < first.length; what++) {
      due.is("count(" + what + ")", x.count(what), first[what]);
    }
    due.is("count(20)", x.count(20), 4);
    due.is("count(21)", x.count(21), 2);
    for (int key = 0; key < 24; key++) {
      due.is("primary(-1, " + key + ")", x.primary(-1, key), 0);
      due.is("read(0, " + key + ", 0)", x.read(0, key, 0), 0);
      due.is("read(1, " + key + ", 0)", x.read(1, key, 0), 0);
    }
    for (int slot = 0; slot < 3; slot++) {
      due.is("slotOf(" + slot + ", 0)", x.slotOf(slot, 0), Due.NONE);
    }
    for (int standby = 0; standby < 2; standby++) {
      due.is("standbyOf(.., 0)", x.standbyOf(standby, 0), 0);
      due.is("standbyOf(.., 1)", x.standbyOf(standby, 1), 0);
      due.is("standbyOf(.., 2)", x.standbyOf(standby, 2), 0);
      due.is("standbyOf(.., 4)", x.standbyOf(standby, 4), 0);
    }
    due.is("undo()", x.undo(), Due.IMPOSSIBLE);
    due.is("fault(0)", x.fault(0), Due.NONE);
    x.open(0);
    due.is("a second object's open(0)", new FencedStandbys().open(0), 1);
  }

  /** The one test that asks for a number which the document leaves open: no tick has passed, so it is taken to be 0. */
  private static void firstTick() {
    Due due = new Due("where the document leaves room, the tick at first");
    due.is("count(1)", new FencedStandbys().count(1), 0);
  }

  private static void open() {
    Due due = new Due("promise 2, open");
    FencedStandbys x = new FencedStandbys();
    due.is("open(2)", x.open(2), 1);
    due.is("open(0)", x.open(0), 2);
    due.is("open(1)", x.open(1), 3);
    due.is("open(1) again", x.open(1), Due.IMPOSSIBLE);
    due.is("count(3) behind a refused open", x.count(3), 3);
    due.is("open(3)", x.open(3), Due.INVALID);
    due.is("open(-1)", x.open(-1), Due.INVALID);
    due.is("open(min)", x.open(Integer.MIN_VALUE), Due.INVALID);
    due.is("open(max)", x.open(Integer.MAX_VALUE), Due.INVALID);
    due.is("count(8)", x.count(8), 3);
    due.is("slotOf(2, 0)", x.slotOf(2, 0), 1);
    due.is("count(0): an open writes no record", x.count(0), 0);
    x.promote(0);
    due.is("open(1) behind a promotion: lost ones count", x.open(1), 4);
    x.commit(1);
    due.is("open(1) behind a commit", x.open(1), 5);
    FencedStandbys full = Due.withPuts(100);
    due.is("open(1) with 100 records", full.open(1), 2);
  }

  private static void put() {
    Due due = new Due("promise 3, put");
    FencedStandbys x = new FencedStandbys();
    due.is("put(1, 0, 0) in an empty slot", x.put(1, 0, 0), Due.IMPOSSIBLE);
    x.open(1);
    due.is("put(1, 0, 0)", x.put(1, 0, 0), 1);
    due.is("put(1, 23, 999)", x.put(1, 23, 999), 2);
    due.is("recordOf(2, 2)", x.recordOf(2, 2), 23);
    due.is("recordOf(2, 3)", x.recordOf(2, 3), 999);
    int[][] wrong = {{3, 0, 0}, {-1, 0, 0}, {1, 24, 0}, {1, -1, 0}, {1, 0, 1000}, {1, 0, -1}, {0, 24, 0},
        {Integer.MAX_VALUE, 0, 0}, {1, Integer.MIN_VALUE, 0}, {1, 0, Integer.MAX_VALUE}};
    for (int[] w : wrong) {
      due.is("put(" + w[0] + ", " + w[1] + ", " + w[2] + ")", x.put(w[0], w[1], w[2]), Due.INVALID);
    }
    due.is("count(0)", x.count(0), 2);
    due.is("count(8)", x.count(8), 3);
    FencedStandbys full = Due.withPuts(99);
    due.is("the 100th put", full.put(0, 1, 1), 100);
    due.is("the 101st put", full.put(0, 1, 1), Due.LIMIT);
    due.is("an empty slot ahead of the limit", full.put(1, 1, 1), Due.IMPOSSIBLE);
    due.is("a wrong key ahead of the limit", full.put(0, 24, 1), Due.INVALID);
    due.is("count(0)", full.count(0), 100);
  }

  private static void commit() {
    Due due = new Due("promise 4, commit");
    FencedStandbys x = new FencedStandbys();
    due.is("commit(0) in an empty slot", x.commit(0), Due.IMPOSSIBLE);
    due.is("commit(3)", x.commit(3), Due.INVALID);
    due.is("commit(-1)", x.commit(-1), Due.INVALID);
    x.open(0);
    x.open(1);
    x.put(0, 7, 1);
    x.put(1, 7, 2);
    x.put(0, 7, 3);
    due.is("commit(1)", x.commit(1), 4);
    due.is("slotOf(1, 0): the slot is empty", x.slotOf(1, 0), Due.NONE);
    due.is("primary(-1, 7)", x.primary(-1, 7), 2);
    due.is("commit(1) again", x.commit(1), Due.IMPOSSIBLE);
    due.is("commit(0)", x.commit(0), 5);
    due.is("primary(-1, 7): the later commit, its last put", x.primary(-1, 7), 3);
    due.is("recordOf(5, 0)", x.recordOf(5, 0), 1);
    due.is("recordOf(5, 1)", x.recordOf(5, 1), 1);
    x.open(2);
    due.is("commit(2) of no puts", x.commit(2), 6);
    FencedStandbys full = Due.withPuts(100);
    due.is("commit(0) with 100 records", full.commit(0), Due.LIMIT);
    due.is("slotOf(0, 0) still", full.slotOf(0, 0), 1);
    due.is("commit(1) with 100 records, empty", full.commit(1), Due.IMPOSSIBLE);
    due.is("commit as the 100th record", Due.withPuts(99).commit(0), 100);
  }

  private static void abort() {
    Due due = new Due("promise 5, abort");
    FencedStandbys x = new FencedStandbys();
    due.is("abort(0) in an empty slot", x.abort(0), Due.IMPOSSIBLE);
    due.is("abort(3)", x.abort(3), Due.INVALID);
    due.is("abort(-1)", x.abort(-1), Due.INVALID);
    Due.commitOne(x, 5, 50);
    x.open(2);
    x.put(2, 5, 51);
    due.is("abort(2)", x.abort(2), 4);
    due.is("slotOf(2, 0)", x.slotOf(2, 0), Due.NONE);
    due.is("primary(-1, 5): an aborted put does not count", x.primary(-1, 5), 50);
    due.is("fence(5)", x.fence(5), 2);
    due.is("recordOf(4, 0)", x.recordOf(4, 0), 2);
    due.is("recordOf(4, 1)", x.recordOf(4, 1), 2);
    due.is("count(4)", x.count(4), 1);
    due.is("abort(2) again", x.abort(2), Due.IMPOSSIBLE);
    FencedStandbys full = Due.withPuts(100);
    due.is("abort(0) with 100 records", full.abort(0), Due.LIMIT);
    due.is("slotOf(0, 0) still", full.slotOf(0, 0), 1);
    due.is("abort as the 100th record", Due.withPuts(99).abort(0), 100);
  }
}
