/** Promises 13 to 19, sentence by sentence, at their boundaries. */
public final class ReadsBoundsTest {
  private static final String READ = "promise 13, read";
  private static final String PRIMARY = "promise 14, primary";
  private static final String SERVES = "promise 15, serves";
  private static final String FENCE = "promise 16, fence";
  private static final String RECORD_OF = "promise 17, recordOf";
  private static final String STANDBY_OF = "promise 18, standbyOf";
  private static final String SLOT_OF = "promise 19, slotOf";

  public static void main(String[] args) {
    readStandby();
    readKey();
    readFence();
    readAstray();
    readTooLittle();
    primaryAtEnd();
    primaryLastPut();
    primarySlot();
    primaryKey();
    primaryWithoutTransaction();
    servesGreater();
    servesAlike();
    servesFence();
    servesNone();
    fenceLastCommit();
    fenceKey();
    fenceNone();
    recordOfWhat();
    recordOfRecord();
    recordOfNone();
    recordOfNoPut();
    standbyOfRange();
    standbyOfPositions();
    standbyOfGaps();
    standbyOfNoGap();
    standbyOfBehind();
    standbyOfCommits();
    standbyOfTicksAgo();
    standbyOfBehindByNone();
    standbyOfKeys();
    slotOfRange();
    slotOfPuts();
    slotOfNone();
    Due.end();
  }

  // Promise 13

  private static void readStandby() {
    Due due = new Due(READ, "standby: 0 or 1; INVALID_ARGUMENT if an argument is out of range");
    due.is("read(0, 1, 0)", Made.busy().read(0, 1, 0), 10);
    due.is("read(1, 1, 0)", Made.busy().read(1, 1, 0), 10);
    Refusal.beside(due, "read(.., 1, 0)", 0, 1, Made::busy, (x, standby) -> x.read(standby, 1, 0), Due.INVALID);
  }

  private static void readKey() {
    Due due = new Due(READ, "key: 0 to 23; INVALID_ARGUMENT if an argument is out of range");
    FencedStandbys x = new FencedStandbys();
    for (int key = 0; key < 24; key++) {
      Due.commitOne(x, key, 100 + key);
    }
    x.rebuild(1);
    for (int key = 0; key < 24; key++) {
      due.is("read(1, " + key + ", 48)", x.read(1, key, 48), 100 + key);
    }
    Refusal.beside(due, "read(0, .., 0)", 0, 23, Made::busy, (y, key) -> y.read(0, key, 0), Due.INVALID);
    Refusal.beside(due, "read(0, .., 0)", 0, 23, Made::withOneAstray, (y, key) -> y.read(0, key, 0), Due.INVALID);
  }

  private static void readFence() {
    Due due = new Due(READ, "fence: 0 to the number of records; INVALID_ARGUMENT if an argument is out of range");
    for (int records = 0; records <= 100; records += 20) {
      FencedStandbys x = Due.withPuts(records);
      x.rebuild(0);
      due.is("read(0, 0, 0) of " + records, x.read(0, 0, 0), 0);
      due.is("read(0, 0, " + records + ")", x.read(0, 0, records), 0);
      due.is("read(0, 0, " + (records + 1) + ")", x.read(0, 0, records + 1), Due.INVALID);
      due.is("read(0, 0, -1)", x.read(0, 0, -1), Due.INVALID);
    }
    Refusal.beside(due, "read(0, 1, ..)", 0, 7, Made::busy, (x, fence) -> x.read(0, 1, fence), Due.INVALID);
    Refusal.beside(due, "read(0, 1, ..)", 0, 5, Made::withOneAstray, (x, fence) -> x.read(0, 1, fence), Due.INVALID);
  }

  private static void readAstray() {
    Due due = new Due(READ, "NOT_POSSIBLE if it is astray");
    Refusal.is(due, "read(0, 1, 0)", Made::withOneAstray, x -> x.read(0, 1, 0), Due.IMPOSSIBLE);
    Refusal.is(due, "read(0, 1, 4): up to where it stands", Made::withOneAstray, x -> x.read(0, 1, 4), Due.IMPOSSIBLE);
    Refusal.is(due, "read(1, 1, 3)", Made::withBothAstray, x -> x.read(1, 1, 3), Due.IMPOSSIBLE);
  }

  private static void readTooLittle() {
    Due due = new Due(READ, "NOT_POSSIBLE if it would see too little");
    Refusal.is(due, "read(0, 1, 5) at 4", Made::busy, x -> x.read(0, 1, 5), Due.IMPOSSIBLE);
    Refusal.is(due, "read(1, 1, 4) at 3", Made::busy, x -> x.read(1, 1, 4), Due.IMPOSSIBLE);
    Refusal.is(due, "read(1, 1, 100) at none", Made::full, x -> x.read(1, 1, 100), Due.IMPOSSIBLE);
    Refusal.is(due, "read(1, 1, 1) at none", Made::full, x -> x.read(1, 1, 1), Due.IMPOSSIBLE);
    due.is("read(0, 1, 4) at 4", Made.busy().read(0, 1, 4), 10);
    due.is("read(1, 1, 0) at none", Made.full().read(1, 1, 0), 0);
    FencedStandbys x = Due.withPuts(3);
    x.ship(0, 3);
    due.is("read(0, 0, 1): received is not applied", x.read(0, 0, 1), Due.IMPOSSIBLE);
  }

  // Promise 14

  private static void primaryAtEnd() {
    Due due = new Due(PRIMARY, "Reads a key at the primary: the value at the end of the log");
    FencedStandbys x = new FencedStandbys();
    due.is("primary(-1, 1) of no records", x.primary(-1, 1), 0);
    x.open(0);
    x.put(0, 1, 5);
    due.is("primary(-1, 1): an open put", x.primary(-1, 1), 0);
    x.commit(0);
    due.is("primary(-1, 1): the commit is the last record", x.primary(-1, 1), 5);
    due.is("standbyOf(0, 1): no standby needs to have it", x.standbyOf(0, 1), 0);
    x.open(1);
    due.is("primary(1, 1): by a slot without a put", x.primary(1, 1), 5);
    FencedStandbys full = Due.withPuts(99);
    full.commit(0);
    due.is("primary(-1, 2) at 100 records", full.primary(-1, 2), 98);
  }

  private static void primaryLastPut() {
    Due due = new Due(PRIMARY, "or, by a slot with a transaction, the value of its last put of this key, if it has one");
    FencedStandbys x = new FencedStandbys();
    Due.commitOne(x, 1, 5);
    x.open(0);
    x.open(1);
    x.put(0, 1, 6);
    due.is("primary(0, 1)", x.primary(0, 1), 6);
    due.is("primary(1, 1): of its own puts alone", x.primary(1, 1), 5);
    x.put(0, 1, 0);
    due.is("primary(0, 1): the last put, of 0", x.primary(0, 1), 0);
    x.put(0, 2, 7);
    due.is("primary(0, 1): the last put of this key", x.primary(0, 1), 0);
    x.put(1, 1, 8);
    x.commit(1);
    due.is("primary(0, 1): ahead of a younger commit", x.primary(0, 1), 0);
    due.is("primary(0, 3): it has none", x.primary(0, 3), 0);
    x.abort(0);
    x.open(0);
    due.is("primary(0, 1): a new transaction has none", x.primary(0, 1), 8);
    FencedStandbys full = Due.withPuts(100);
    due.is("primary(0, 0): put by the records 1, 25, 49, 73, 97", full.primary(0, 0), 96);
    due.is("primary(0, 3): put by the record 100 last", full.primary(0, 3), 99);
    due.is("primary(0, 4): put by the record 77 last", full.primary(0, 4), 76);
  }

  private static void primarySlot() {
    Due due = new Due(PRIMARY, "slot: 0 to 2, or -1: by none; INVALID_ARGUMENT if an argument is out of range");
    FencedStandbys x = new FencedStandbys();
    Due.commitOne(x, 1, 5);
    for (int slot = 0; slot < 3; slot++) {
      x.open(slot);
      x.put(slot, 1, 10 + slot);
    }
    due.is("primary(-1, 1)", x.primary(-1, 1), 5);
    for (int slot = 0; slot < 3; slot++) {
      due.is("primary(" + slot + ", 1)", x.primary(slot, 1), 10 + slot);
    }
    Refusal.beside(due, "primary(.., 1)", -1, 2, Made::busy, (y, slot) -> y.primary(slot, 1), Due.INVALID);
  }

  private static void primaryKey() {
    Due due = new Due(PRIMARY, "key: 0 to 23; INVALID_ARGUMENT if an argument is out of range");
    Refusal.beside(due, "primary(-1, ..)", 0, 23, Made::busy, (x, key) -> x.primary(-1, key), Due.INVALID);
    Refusal.beside(due, "primary(1, ..)", 0, 23, Made::busy, (x, key) -> x.primary(1, key), Due.INVALID);
    Refusal.beside(due, "primary(0, ..)", 0, 23, Made::busy, (x, key) -> x.primary(0, key), Due.INVALID);
    FencedStandbys x = Due.withPuts(24);
    for (int key = 0; key < 24; key++) {
      due.is("primary(0, " + key + ")", x.primary(0, key), key);
    }
  }

  private static void primaryWithoutTransaction() {
    Due due = new Due(PRIMARY, "NOT_POSSIBLE if the slot has no transaction");
    for (int slot = 0; slot < 3; slot++) {
      int empty = slot;
      Refusal.is(due, "primary(" + slot + ", 0)", Made::fresh, x -> x.primary(empty, 0), Due.IMPOSSIBLE);
    }
    Refusal.is(due, "primary(0, 1)", Made::busy, x -> x.primary(0, 1), Due.IMPOSSIBLE);
    due.is("primary(-1, 1): by none", new FencedStandbys().primary(-1, 1), 0);
    FencedStandbys x = Made.busy();
    x.abort(1);
    due.is("primary(1, 1) behind its abort", x.primary(1, 1), Due.IMPOSSIBLE);
    x.promote(0);
    due.is("primary(2, 1) behind a promotion", x.primary(2, 1), Due.IMPOSSIBLE);
  }

  // Promise 15

  private static void servesGreater() {
    Due due = new Due(SERVES, "Returns the one with the greater applied position of those that are not astray and do not"
        + " see too little");
    FencedStandbys x = Made.busy();
    due.is("serves(0): 4 and 3", x.serves(0), 0);
    due.is("serves(3)", x.serves(3), 0);
    due.is("serves(4): the one alone", x.serves(4), 0);
    x.rebuild(1);
    due.is("serves(0): 4 and 7", x.serves(0), 1);
    due.is("serves(4): 4 and 7", x.serves(4), 1);
    due.is("serves(5): the one alone", x.serves(5), 1);
    due.is("serves(7)", x.serves(7), 1);
    due.is("serves(0): 4, astray, and 3", Made.withOneAstray().serves(0), 1);
    due.is("serves(3): 4, astray, and 3", Made.withOneAstray().serves(3), 1);
    FencedStandbys received = Due.withPuts(3);
    received.ship(1, 3);
    due.is("serves(0): received is not applied", received.serves(0), 0);
    FencedStandbys other = Made.withBothAstray();
    other.rebuild(0);
    due.is("serves(4): the other is astray", other.serves(4), 0);
    other.rebuild(1);
    other.put(0, 0, 0);
    other.rebuild(1);
    due.is("serves(0): one record more", other.serves(0), 1);
  }

  private static void servesAlike() {
    Due due = new Due(SERVES, "of two alike the standby 0");
    due.is("serves(0) of no records", new FencedStandbys().serves(0), 0);
    FencedStandbys x = Made.full();
    due.is("serves(0) with none applied", x.serves(0), 0);
    x.rebuild(1);
    x.rebuild(0);
    due.is("serves(100)", x.serves(100), 0);
    due.is("serves(0)", x.serves(0), 0);
    FencedStandbys some = Due.withPuts(9);
    some.ship(1, 5);
    some.ship(0, 5);
    some.tick(9);
    due.is("serves(5)", some.serves(5), 0);
  }

  private static void servesFence() {
    Due due = new Due(SERVES, "fence: 0 to the number of records; INVALID_ARGUMENT if fence is out of range");
    Refusal.beside(due, "serves", 0, 7, Made::busy, (x, fence) -> x.serves(fence), Due.INVALID);
    Refusal.beside(due, "serves", 0, 0, Made::fresh, (x, fence) -> x.serves(fence), Due.INVALID);
    Refusal.beside(due, "serves", 0, 4, Made::withBothAstray, (x, fence) -> x.serves(fence), Due.INVALID);
    FencedStandbys full = Made.full();
    full.rebuild(1);
    due.is("serves(100)", full.serves(100), 1);
    due.is("serves(101)", full.serves(101), Due.INVALID);
  }

  private static void servesNone() {
    Due due = new Due(SERVES, "NOT_FOUND if there is none");
    Refusal.is(due, "serves(5) of 4 and 3", Made::busy, x -> x.serves(5), Due.NONE);
    Refusal.is(due, "serves(7)", Made::busy, x -> x.serves(7), Due.NONE);
    Refusal.is(due, "serves(4): the one that could is astray", Made::withOneAstray, x -> x.serves(4), Due.NONE);
    Refusal.is(due, "serves(0) of both astray", Made::withBothAstray, x -> x.serves(0), Due.NONE);
    Refusal.is(due, "serves(1) with none applied", Made::full, x -> x.serves(1), Due.NONE);
  }

  // Promise 16

  private static void fenceLastCommit() {
    Due due = new Due(FENCE, "Returns the record with the last commit of a transaction that put a key.");
    FencedStandbys x = new FencedStandbys();
    x.open(0);
    x.open(1);
    x.put(0, 0, 1);
    x.put(1, 0, 2);
    x.put(1, 23, 2);
    x.commit(1);
    due.is("fence(0)", x.fence(0), 4);
    due.is("fence(23)", x.fence(23), 4);
    x.commit(0);
    due.is("fence(0): the older put, the younger commit", x.fence(0), 5);
    due.is("fence(23): the younger commit did not put it", x.fence(23), 4);
    x.open(2);
    x.put(2, 23, 9);
    due.is("fence(23): open", x.fence(23), 4);
    x.abort(2);
    due.is("fence(23): aborted", x.fence(23), 4);
    x.open(2);
    x.commit(2);
    due.is("fence(0): a commit of no puts", x.fence(0), 5);
    Due.commitOne(x, 23, 2);
    due.is("fence(23): the same value again", x.fence(23), 10);
    FencedStandbys full = Due.withPuts(99);
    full.commit(0);
    due.is("fence(0): the record 100 for the record 1", full.fence(0), 100);
  }

  private static void fenceKey() {
    Due due = new Due(FENCE, "key: 0 to 23; INVALID_ARGUMENT if key is out of range");
    Refusal.beside(due, "fence", 0, 23, Made::busy, (x, key) -> x.fence(key), Due.INVALID);
    Refusal.beside(due, "fence", 0, 23, Made::fresh, (x, key) -> x.fence(key), Due.INVALID);
    FencedStandbys x = Due.withPuts(24);
    x.commit(0);
    for (int key = 0; key < 24; key++) {
      due.is("fence(" + key + ")", x.fence(key), 25);
    }
  }

  private static void fenceNone() {
    Due due = new Due(FENCE, "NOT_FOUND if there is none");
    Refusal.is(due, "fence(0) of no records", Made::fresh, x -> x.fence(0), Due.NONE);
    Refusal.is(due, "fence(23) of no records", Made::fresh, x -> x.fence(23), Due.NONE);
    Refusal.is(due, "fence(0) of 100 puts", Made::full, x -> x.fence(0), Due.NONE);
    Refusal.is(due, "fence(3), which was aborted", Made::busy, x -> x.fence(3), Due.NONE);
    Refusal.is(due, "fence(4), which is open", Made::busy, x -> x.fence(4), Due.NONE);
    FencedStandbys x = new FencedStandbys();
    Due.commitOne(x, 5, 5);
    x.promote(0);
    due.is("fence(5), which was lost", x.fence(5), Due.NONE);
    x.undo();
    due.is("fence(5) undone", x.fence(5), 2);
  }

  // Promise 17

  private static void recordOfWhat() {
    Due due = new Due(RECORD_OF, "what: 0: 0 if it is a put, 1 a commit, 2 an abort; 1: the transaction; 2: the key; 3: the"
        + " value; 4: the tick; INVALID_ARGUMENT if what is out of range");
    FencedStandbys x = Made.busy();
    int[][] want = {{0, 1, 1, 10, Due.tick(0)}, {0, 1, 2, 20, Due.tick(0)}, {1, 1, Due.NONE, Due.NONE, Due.tick(0)},
        {0, 2, 1, 11, Due.tick(3)}, {0, 3, 3, 30, Due.tick(3)}, {2, 3, Due.NONE, Due.NONE, Due.tick(3)},
        {0, 4, 4, 40, Due.tick(4)}};
    for (int record = 1; record <= 7; record++) {
      for (int what = 0; what <= 4; what++) {
        due.is("recordOf(" + record + ", " + what + ")", x.recordOf(record, what), want[record - 1][what]);
      }
    }
    Refusal.beside(due, "recordOf(1, ..)", 0, 4, Made::busy, (y, what) -> y.recordOf(1, what), Due.INVALID);
    Refusal.beside(due, "recordOf(9, ..)", 0, 4, Made::busy, (y, what) -> y.recordOf(9, what), Due.INVALID);
  }

  private static void recordOfRecord() {
    Due due = new Due(RECORD_OF, "record: 1 or more; INVALID_ARGUMENT if record is below 1");
    Refusal.below(due, "recordOf(.., 0)", 1, Made::busy, (x, record) -> x.recordOf(record, 0), Due.INVALID);
    Refusal.below(due, "recordOf(.., 3)", 1, Made::fresh, (x, record) -> x.recordOf(record, 3), Due.INVALID);
    Refusal.below(due, "recordOf(.., 5)", 1, Made::busy, (x, record) -> x.recordOf(record, 5), Due.INVALID);
    due.is("recordOf(1, 3)", Made.busy().recordOf(1, 3), 10);
  }

  private static void recordOfNone() {
    Due due = new Due(RECORD_OF, "NOT_FOUND if there is no such record");
    for (int record : new int[] {8, 100, 101, 257, 65537, Integer.MAX_VALUE}) {
      for (int what = 0; what <= 4; what++) {
        int of = what;
        Refusal.is(due, "recordOf(" + record + ", " + what + ")", Made::busy, x -> x.recordOf(record, of), Due.NONE);
      }
    }
    for (int what = 0; what <= 4; what++) {
      due.is("recordOf(1, " + what + ") of none", new FencedStandbys().recordOf(1, what), Due.NONE);
      due.is("recordOf(101, " + what + ") of 100", Made.full().recordOf(101, what), Due.NONE);
    }
    FencedStandbys x = Made.busy();
    x.promote(0);
    due.is("recordOf(4, 0) of a log that was cut", x.recordOf(4, 0), 0);
    due.is("recordOf(5, 0) of a log that was cut", x.recordOf(5, 0), Due.NONE);
  }

  private static void recordOfNoPut() {
    Due due = new Due(RECORD_OF, "NOT_FOUND, for 2 and 3 if it is no put");
    for (int record : new int[] {3, 6}) {
      Refusal.is(due, "recordOf(" + record + ", 2)", Made::busy, x -> x.recordOf(record, 2), Due.NONE);
      Refusal.is(due, "recordOf(" + record + ", 3)", Made::busy, x -> x.recordOf(record, 3), Due.NONE);
    }
    FencedStandbys again = Due.withPuts(1);
    again.promote(0);
    again.open(0);
    again.commit(0);
    due.is("recordOf(1, 2) of a commit where a put was", again.recordOf(1, 2), Due.NONE);
    due.is("recordOf(1, 0)", again.recordOf(1, 0), 1);
  }

  // Promise 18

  private static void standbyOfRange() {
    Due due = new Due(STANDBY_OF, "standby: 0 or 1; what: 0 to 8; INVALID_ARGUMENT if an argument is out of range");
    for (int what = 0; what <= 8; what++) {
      int of = what;
      Refusal.beside(due, "standbyOf(.., " + what + ")", 0, 1, Made::busy, (x, standby) -> x.standbyOf(standby, of),
          Due.INVALID);
    }
    Refusal.beside(due, "standbyOf(0, ..)", 0, 8, Made::busy, (x, what) -> x.standbyOf(0, what), Due.INVALID);
    Refusal.beside(due, "standbyOf(1, ..)", 0, 8, Made::withBothAstray, (x, what) -> x.standbyOf(1, what), Due.INVALID);
  }

  private static void standbyOfPositions() {
    Due due = new Due(STANDBY_OF, "0: the received position; 1: the applied one; 4: 1 if it is astray, otherwise 0");
    FencedStandbys x = Made.busy();
    due.is("standbyOf(0, 0)", x.standbyOf(0, 0), 6);
    due.is("standbyOf(0, 1)", x.standbyOf(0, 1), 4);
    due.is("standbyOf(0, 4)", x.standbyOf(0, 4), 0);
    due.is("standbyOf(1, 0)", x.standbyOf(1, 0), 5);
    due.is("standbyOf(1, 1)", x.standbyOf(1, 1), 3);
    due.is("standbyOf(1, 4)", x.standbyOf(1, 4), 0);
    FencedStandbys astray = Made.withOneAstray();
    due.is("standbyOf(0, 0)", astray.standbyOf(0, 0), 4);
    due.is("standbyOf(0, 1)", astray.standbyOf(0, 1), 4);
    due.is("standbyOf(0, 4)", astray.standbyOf(0, 4), 1);
    due.is("standbyOf(1, 4)", astray.standbyOf(1, 4), 0);
    FencedStandbys full = Made.shipped(Made.full(), 1);
    due.is("standbyOf(1, 0)", full.standbyOf(1, 0), 100);
    due.is("standbyOf(1, 1)", full.standbyOf(1, 1), 0);
  }

  private static void standbyOfGaps() {
    Due due = new Due(STANDBY_OF, "2: gaps; 3: the lowest gap");
    FencedStandbys x = Made.shipped(Due.withPuts(100), 0);
    due.is("standbyOf(0, 2) of none", x.standbyOf(0, 2), 0);
    x.lose(0, 100);
    due.is("standbyOf(0, 2)", x.standbyOf(0, 2), 1);
    due.is("standbyOf(0, 3): the last record", x.standbyOf(0, 3), 100);
    x.lose(0, 50);
    x.lose(0, 51);
    due.is("standbyOf(0, 2)", x.standbyOf(0, 2), 3);
    due.is("standbyOf(0, 3)", x.standbyOf(0, 3), 50);
    x.lose(0, 1);
    due.is("standbyOf(0, 3): the first record", x.standbyOf(0, 3), 1);
    due.is("standbyOf(1, 2) of the other", x.standbyOf(1, 2), 0);
    for (int record = 2; record <= 99; record++) {
      x.lose(0, record);
    }
    due.is("standbyOf(0, 2) of all", x.standbyOf(0, 2), 100);
  }

  private static void standbyOfNoGap() {
    Due due = new Due(STANDBY_OF, "NOT_FOUND for 3 if there is no gap");
    Refusal.is(due, "standbyOf(0, 3)", Made::fresh, x -> x.standbyOf(0, 3), Due.NONE);
    Refusal.is(due, "standbyOf(1, 3)", Made::full, x -> x.standbyOf(1, 3), Due.NONE);
    Refusal.is(due, "standbyOf(0, 3) astray", Made::withOneAstray, x -> x.standbyOf(0, 3), Due.NONE);
    FencedStandbys x = Made.busy();
    due.is("standbyOf(0, 3)", x.standbyOf(0, 3), 5);
    x.resend(0);
    due.is("standbyOf(0, 3) sent again", x.standbyOf(0, 3), Due.NONE);
    due.is("standbyOf(1, 3) of the other", x.standbyOf(1, 3), 4);
    x.rebuild(1);
    due.is("standbyOf(1, 3) rebuilt", x.standbyOf(1, 3), Due.NONE);
  }

  private static void standbyOfBehind() {
    Due due = new Due(STANDBY_OF, "5: how many records it is behind (not applied)");
    FencedStandbys x = Made.shipped(Made.full(), 0);
    due.is("standbyOf(0, 5): received is not applied", x.standbyOf(0, 5), 100);
    due.is("standbyOf(1, 5)", x.standbyOf(1, 5), 100);
    x.tick(26);
    due.is("standbyOf(0, 5): all", x.standbyOf(0, 5), 0);
    x.undo();
    x.tick(25);
    due.is("standbyOf(0, 5)", x.standbyOf(0, 5), 4);
    due.is("standbyOf(0, 5) of no records", new FencedStandbys().standbyOf(0, 5), 0);
    due.is("standbyOf(0, 5) astray", Made.withOneAstray().standbyOf(0, 5), 1);
    due.is("standbyOf(1, 5) astray", Made.withBothAstray().standbyOf(1, 5), 1);
  }

  private static void standbyOfCommits() {
    Due due = new Due(STANDBY_OF, "6: how many commits of these");
    FencedStandbys x = new FencedStandbys();
    x.set(0, 1);
    x.set(1, 0);
    x.open(0);
    x.commit(0);
    x.open(0);
    x.put(0, 1, 1);
    x.abort(0);
    Due.commitOne(x, 2, 2);
    x.ship(1, 5);
    int[] want = {2, 1, 1, 1, 1, 0};
    for (int at = 0; at <= 5; at++) {
      due.is("standbyOf(1, 1)", x.standbyOf(1, 1), at);
      due.is("standbyOf(1, 6) at " + at, x.standbyOf(1, 6), want[at]);
      due.is("wouldLose(1) at " + at, x.wouldLose(1), want[at]);
      x.tick(1);
    }
    due.is("standbyOf(0, 6) of no records", new FencedStandbys().standbyOf(0, 6), 0);
    due.is("standbyOf(0, 6) of 100 puts", Made.full().standbyOf(0, 6), 0);
    FencedStandbys astray = Made.withOneAstray();
    astray.commit(0);
    due.is("standbyOf(0, 6) astray", astray.standbyOf(0, 6), 1);
  }

  private static void standbyOfTicksAgo() {
    Due due = new Due(STANDBY_OF, "7: how many ticks ago the first one of these was written");
    FencedStandbys x = new FencedStandbys();
    x.tick(3);
    x.open(0);
    x.put(0, 1, 1);
    due.is("standbyOf(0, 7): in this tick", x.standbyOf(0, 7), 0);
    x.tick(1);
    due.is("standbyOf(0, 7)", x.standbyOf(0, 7), 1);
    x.commit(0);
    due.is("standbyOf(0, 7): not the last one", x.standbyOf(0, 7), 1);
    x.ship(1, 1);
    x.tick(98);
    due.is("standbyOf(0, 7)", x.standbyOf(0, 7), 99);
    due.is("standbyOf(1, 7): of those that are not applied", x.standbyOf(1, 7), 98);
    FencedStandbys astray = Made.withOneAstray();
    astray.tick(8);
    due.is("standbyOf(0, 7) astray", astray.standbyOf(0, 7), 8);
    FencedStandbys last = Made.full();
    last.rebuild(0);
    last.undo();
    last.tick(5);
    due.is("standbyOf(0, 7): the record 1", last.standbyOf(0, 7), 5);
    FencedStandbys end = Due.withPuts(99);
    end.rebuild(0);
    end.tick(2);
    end.put(0, 0, 0);
    end.tick(3);
    due.is("standbyOf(0, 7): the record 100", end.standbyOf(0, 7), 3);
  }

  private static void standbyOfBehindByNone() {
    Due due = new Due(STANDBY_OF, "NOT_FOUND for 7 if it is behind by none");
    Refusal.is(due, "standbyOf(0, 7)", Made::fresh, x -> x.standbyOf(0, 7), Due.NONE);
    Refusal.is(due, "standbyOf(1, 7) rebuilt", ReadsBoundsTest::busyRebuilt, x -> x.standbyOf(1, 7), Due.NONE);
    FencedStandbys full = Made.full();
    full.rebuild(0);
    due.is("standbyOf(0, 7) at 100", full.standbyOf(0, 7), Due.NONE);
    due.is("standbyOf(0, 6) at 100", full.standbyOf(0, 6), 0);
    FencedStandbys cut = Due.withPuts(3);
    cut.promote(0);
    due.is("standbyOf(0, 7) astray, and behind by none", cut.standbyOf(0, 7), Due.NONE);
    due.is("standbyOf(0, 5)", cut.standbyOf(0, 5), 0);
  }

  private static FencedStandbys busyRebuilt() {
    FencedStandbys x = Made.busy();
    x.rebuild(1);
    return x;
  }

  private static void standbyOfKeys() {
    Due due = new Due(STANDBY_OF, "8: keys whose values are other ones than at the end of the log");
    due.is("standbyOf(0, 8) of no records", new FencedStandbys().standbyOf(0, 8), 0);
    FencedStandbys all = new FencedStandbys();
    all.open(0);
    for (int key = 0; key < 24; key++) {
      all.put(0, key, 1);
    }
    due.is("standbyOf(0, 8) of open puts", all.standbyOf(0, 8), 0);
    all.commit(0);
    due.is("standbyOf(0, 8) of all keys", all.standbyOf(0, 8), 24);
    all.ship(0, 20);
    all.ship(0, 4);
    all.tick(99);
    due.is("standbyOf(0, 8): without the commit", all.standbyOf(0, 8), 24);
    all.ship(0, 1);
    all.tick(2);
    due.is("standbyOf(0, 8)", all.standbyOf(0, 8), 0);
    all.open(1);
    all.put(1, 0, 2);
    all.put(1, 1, 1);
    all.put(1, 23, 0);
    all.commit(1);
    due.is("standbyOf(0, 8): the keys 0 and 23", all.standbyOf(0, 8), 2);
    Due.commitOne(all, 0, 1);
    due.is("standbyOf(0, 8): 0 is as it was", all.standbyOf(0, 8), 1);
    all.rebuild(0);
    due.is("standbyOf(0, 8) rebuilt", all.standbyOf(0, 8), 0);
    FencedStandbys cut = new FencedStandbys();
    Due.commitOne(cut, 0, 5);
    Due.commitOne(cut, 23, 6);
    due.is("standbyOf(1, 8): the keys 0 and 23", cut.standbyOf(1, 8), 2);
    cut.promote(0);
    due.is("standbyOf(1, 8) of an empty log", cut.standbyOf(1, 8), 0);
    due.is("standbyOf(0, 8) of an empty log", cut.standbyOf(0, 8), 0);
    FencedStandbys zero = new FencedStandbys();
    Due.commitOne(zero, 3, 0);
    due.is("standbyOf(0, 8): a put of 0", zero.standbyOf(0, 8), 0);
    FencedStandbys astray = Made.withOneAstray();
    astray.commit(0);
    due.is("standbyOf(0, 8) astray", astray.standbyOf(0, 8), 1);
  }

  // Promise 19

  private static void slotOfRange() {
    Due due = new Due(SLOT_OF, "slot: 0 to 2; what: 0 or 1; INVALID_ARGUMENT if an argument is out of range");
    Refusal.beside(due, "slotOf(.., 0)", 0, 2, Made::busy, (x, slot) -> x.slotOf(slot, 0), Due.INVALID);
    Refusal.beside(due, "slotOf(.., 1)", 0, 2, Made::fresh, (x, slot) -> x.slotOf(slot, 1), Due.INVALID);
    Refusal.beside(due, "slotOf(1, ..)", 0, 1, Made::busy, (x, what) -> x.slotOf(1, what), Due.INVALID);
    Refusal.beside(due, "slotOf(0, ..), empty", 0, 1, Made::busy, (x, what) -> x.slotOf(0, what), Due.INVALID);
    FencedStandbys x = Made.busy();
    due.is("slotOf(1, 0)", x.slotOf(1, 0), 2);
    due.is("slotOf(2, 0)", x.slotOf(2, 0), 4);
    x.open(0);
    due.is("slotOf(0, 0)", x.slotOf(0, 0), 5);
  }

  private static void slotOfPuts() {
    Due due = new Due(SLOT_OF, "1: how many puts it has so far (those whose records are in the log)");
    FencedStandbys x = new FencedStandbys();
    x.open(0);
    due.is("slotOf(0, 1) of none", x.slotOf(0, 1), 0);
    for (int puts = 1; puts <= 99; puts++) {
      x.put(0, 3, 5);
      due.is("slotOf(0, 1)", x.slotOf(0, 1), puts);
    }
    x.open(1);
    due.is("slotOf(1, 1): of its own alone", x.slotOf(1, 1), 0);
    x.put(1, 3, 5);
    due.is("slotOf(1, 1): the record 100", x.slotOf(1, 1), 1);
    due.is("put(0, 3, 5), refused", x.put(0, 3, 5), Due.LIMIT);
    due.is("slotOf(0, 1)", x.slotOf(0, 1), 99);
    x.undo();
    due.is("slotOf(1, 1) undone", x.slotOf(1, 1), 0);
    x.commit(0);
    due.is("slotOf(0, 1) behind its commit", x.slotOf(0, 1), Due.NONE);
    due.is("slotOf(1, 1)", x.slotOf(1, 1), 0);
  }

  private static void slotOfNone() {
    Due due = new Due(SLOT_OF, "NOT_FOUND if it has none");
    for (int what = 0; what <= 1; what++) {
      int of = what;
      Refusal.is(due, "slotOf(0, " + what + ")", Made::busy, x -> x.slotOf(0, of), Due.NONE);
      Refusal.is(due, "slotOf(2, " + what + ")", Made::full, x -> x.slotOf(2, of), Due.NONE);
      Refusal.is(due, "slotOf(1, " + what + ")", Made::fresh, x -> x.slotOf(1, of), Due.NONE);
      Refusal.is(due, "slotOf(2, " + what + ") promoted", Made::withOneAstray, x -> x.slotOf(2, of), Due.NONE);
    }
  }
}
