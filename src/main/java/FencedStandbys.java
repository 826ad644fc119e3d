public final class FencedStandbys {
    public static final int INVALID_ARGUMENT = -1000001;
    public static final int NOT_POSSIBLE = -1000002;
    public static final int LIMIT_REACHED = -1000003;
    public static final int NOT_FOUND = -1000004;

    private static final int KEYS = 24;
    private static final int MOST_VALUE = 999;
    private static final int SLOTS = 3;
    private static final int NO_SLOT = -1;
    private static final int NO_TRANSACTION = 0;
    private static final int RECORDS = 100;
    private static final int NO_RECORD = 0;
    private static final int STANDBYS = 2;
    private static final int MOST_SHIPPED = 20;
    private static final int MOST_TICKS = 99;
    private static final int MOST_WAIT = 200;
    private static final int MOST_RATE = 20;
    private static final int MOST_DELAY = 20;
    private static final int STATES = 4;
    private static final int CHARACTERS = 60;
    private static final int DIGITS = 3;
    private static final int MOST_NUMBERS = 3;

    private static final int PUT = 0;
    private static final int COMMIT = 1;
    private static final int ABORT = 2;

    private static final int NO_FAULT = 0;
    private static final int NOT_OF_THE_FORM = 1;
    private static final int REFUSED = 2;

    private final Store store = new Store();
    private final History history = new History();
    private final OrderText text = new OrderText();
    private final Trial trial = new Trial();
    private final int[] valuesSeen = new int[KEYS];
    private final int[] valuesAtEnd = new int[KEYS];

    public FencedStandbys() {
    }

    // ---- primary

    public int open(int slot) {
        history.prepare(store);
        return changed(store.openIn(slot));
    }

    public int put(int slot, int key, int value) {
        history.prepare(store);
        return changed(store.putBy(slot, key, value));
    }

    public int commit(int slot) {
        history.prepare(store);
        return changed(store.endIn(slot, COMMIT));
    }

    public int abort(int slot) {
        history.prepare(store);
        return changed(store.endIn(slot, ABORT));
    }

    // ---- standbys

    public int ship(int standby, int many) {
        history.prepare(store);
        return changed(store.shipTo(standby, many));
    }

    public int lose(int standby, int record) {
        history.prepare(store);
        return changed(store.loseFor(standby, record));
    }

    public int resend(int standby) {
        history.prepare(store);
        return changed(store.resendTo(standby));
    }

    public int tick(int ticks) {
        history.prepare(store);
        return changed(store.pass(ticks));
    }

    public int promote(int standby) {
        history.prepare(store);
        return changed(store.promoteTo(standby));
    }

    public int rebuild(int standby) {
        history.prepare(store);
        return changed(store.rebuildOf(standby));
    }

    public int set(int what, int value) {
        history.prepare(store);
        return changed(store.setTo(what, value));
    }

    // ---- reads

    public int read(int standby, int key, int fence) {
        if (!isStandby(standby) || !isKey(key) || !store.isPosition(fence)) {
            return INVALID_ARGUMENT;
        }
        Standby reader = store.standby(standby);
        if (!reader.canServe(fence)) {
            return NOT_POSSIBLE;
        }
        return store.log.valueAt(key, reader.applied);
    }

    public int primary(int slot, int key) {
        if ((slot != NO_SLOT && !isSlot(slot)) || !isKey(key)) {
            return INVALID_ARGUMENT;
        }
        Log log = store.log;
        if (slot == NO_SLOT) {
            return log.valueAt(key, log.size);
        }
        int transaction = store.transactionIn(slot);
        if (transaction == NO_TRANSACTION) {
            return NOT_POSSIBLE;
        }
        int own = log.lastPut(transaction, key, log.size);
        return own == NO_RECORD ? log.valueAt(key, log.size) : log.valueIn(own);
    }

    public int serves(int fence) {
        if (!store.isPosition(fence)) {
            return INVALID_ARGUMENT;
        }
        boolean first = store.first.canServe(fence);
        boolean second = store.second.canServe(fence);
        if (first && second) {
            return store.second.applied > store.first.applied ? 1 : 0;
        }
        if (first) {
            return 0;
        }
        return second ? 1 : NOT_FOUND;
    }

    public int fence(int key) {
        if (!isKey(key)) {
            return INVALID_ARGUMENT;
        }
        return found(store.log.lastCommit(key, store.log.size));
    }

    // ---- what there is

    public int recordOf(int record, int what) {
        if (record < 1 || what < 0 || what > 4) {
            return INVALID_ARGUMENT;
        }
        Log log = store.log;
        boolean isOfPuts = what == 2 || what == 3;
        if (!log.has(record) || (isOfPuts && log.kindOf(record) != PUT)) {
            return NOT_FOUND;
        }
        switch (what) {
            case 0:
                return log.kindOf(record);
            case 1:
                return log.transactionOf(record);
            case 2:
                return log.keyOf(record);
            case 3:
                return log.valueIn(record);
            default:
                return log.tickOf(record);
        }
    }

    public int standbyOf(int standby, int what) {
        if (!isStandby(standby) || what < 0 || what > 8) {
            return INVALID_ARGUMENT;
        }
        Standby it = store.standby(standby);
        Log log = store.log;
        switch (what) {
            case 0:
                return it.received;
            case 1:
                return it.applied;
            case 2:
                return it.gapCount();
            case 3:
                return found(it.lowestGap());
            case 4:
                return it.astray ? 1 : 0;
            case 5:
                return log.size - it.applied;
            case 6:
                return log.commitsBehind(it.applied);
            case 7:
                return log.has(it.applied + 1) ? store.tick - log.tickOf(it.applied + 1) : NOT_FOUND;
            default:
                return keysNotAsAtEnd(it.applied);
        }
    }

    public int slotOf(int slot, int what) {
        if (!isSlot(slot) || what < 0 || what > 1) {
            return INVALID_ARGUMENT;
        }
        int transaction = store.transactionIn(slot);
        if (transaction == NO_TRANSACTION) {
            return NOT_FOUND;
        }
        return what == 0 ? transaction : store.log.putsOf(transaction);
    }

    // ---- what would be

    public int waits(int standby, int fence) {
        if (!isStandby(standby) || !store.isPosition(fence)) {
            return INVALID_ARGUMENT;
        }
        Standby it = store.standby(standby);
        return it.astray ? NOT_POSSIBLE : store.ticksUntil(it, fence);
    }

    public int wouldLose(int standby) {
        if (!isStandby(standby)) {
            return INVALID_ARGUMENT;
        }
        Standby it = store.standby(standby);
        return it.astray ? NOT_POSSIBLE : store.log.commitsBehind(it.applied);
    }

    public int rateFor(int standby, int ticks) {
        if (!isStandby(standby) || !isTicks(ticks)) {
            return INVALID_ARGUMENT;
        }
        Standby it = store.standby(standby);
        return it.astray ? NOT_POSSIBLE : store.leastRate(it, ticks);
    }

    public int count(int what) {
        switch (what) {
            case 0:
                return store.log.size;
            case 1:
                return store.tick;
            case 2:
                return store.timeline;
            case 3:
                return store.transactions;
            case 4:
                return store.log.commitsBehind(0);
            case 5:
                return store.commitsLost;
            case 6:
                return store.recordsLost;
            case 7:
                return store.recordsApplied;
            case 8:
                return history.size;
            case 9:
                return text.length;
            case 20:
                return store.rate;
            case 21:
                return store.delay;
            default:
                return INVALID_ARGUMENT;
        }
    }

    public int undo() {
        return history.restore(store) ? history.size : NOT_POSSIBLE;
    }

    // ---- texts

    public int type(int character) {
        if (character < 32 || character > 126) {
            return INVALID_ARGUMENT;
        }
        return text.append((char) character) ? text.length : LIMIT_REACHED;
    }

    public int clearText() {
        int length = text.length;
        text.length = 0;
        return length;
    }

    public int fault(int what) {
        if (what < 0 || what > 2) {
            return INVALID_ARGUMENT;
        }
        trial.run(text, store);
        if (trial.reason == NO_FAULT) {
            return NOT_FOUND;
        }
        switch (what) {
            case 0:
                return trial.position;
            case 1:
                return trial.reason;
            default:
                return trial.cause;
        }
    }

    public int play() {
        trial.run(text, store);
        if (trial.reason != NO_FAULT) {
            return NOT_POSSIBLE;
        }
        history.prepare(store);
        store.copyFrom(trial.store);
        return changed(trial.orders);
    }

    /** A call that answers an error has changed nothing, so the state that was prepared for it is not kept. */
    private int changed(int answer) {
        if (answer >= 0) {
            history.keep();
        }
        return answer;
    }

    private int keysNotAsAtEnd(int position) {
        store.log.fillValues(position, valuesSeen);
        store.log.fillValues(store.log.size, valuesAtEnd);
        int keys = 0;
        for (int key = 0; key < KEYS; key++) {
            if (valuesSeen[key] != valuesAtEnd[key]) {
                keys++;
            }
        }
        return keys;
    }

    private static int found(int record) {
        return record == NO_RECORD ? NOT_FOUND : record;
    }

    private static boolean isSlot(int slot) {
        return slot >= 0 && slot < SLOTS;
    }

    private static boolean isKey(int key) {
        return key >= 0 && key < KEYS;
    }

    private static boolean isStandby(int standby) {
        return standby >= 0 && standby < STANDBYS;
    }

    private static boolean isTicks(int ticks) {
        return ticks >= 1 && ticks <= MOST_TICKS;
    }

    /** The document numbers records from 1, so that each stands one place lower in the arrays. */
    private static final class Log {
        int size = 0;
        final int[] kinds = new int[RECORDS];
        final int[] transactions = new int[RECORDS];
        final int[] keys = new int[RECORDS];
        final int[] values = new int[RECORDS];
        final int[] ticks = new int[RECORDS];

        boolean has(int record) {
            return record >= 1 && record <= size && record <= RECORDS;
        }

        int kindOf(int record) {
            return has(record) ? kinds[record - 1] : NOT_FOUND;
        }

        int transactionOf(int record) {
            return has(record) ? transactions[record - 1] : NOT_FOUND;
        }

        int keyOf(int record) {
            return has(record) ? keys[record - 1] : NOT_FOUND;
        }

        int valueIn(int record) {
            return has(record) ? values[record - 1] : NOT_FOUND;
        }

        int tickOf(int record) {
            return has(record) ? ticks[record - 1] : NOT_FOUND;
        }

        int append(int kind, int transaction, int key, int value, int tick) {
            int at = size;
            if (at < 0 || at >= RECORDS) {
                return LIMIT_REACHED;
            }
            kinds[at] = kind;
            transactions[at] = transaction;
            keys[at] = key;
            values[at] = value;
            ticks[at] = tick;
            size = at + 1;
            return size;
        }

        int commitsBehind(int position) {
            int commits = 0;
            for (int record = position + 1; record <= size; record++) {
                if (kindOf(record) == COMMIT) {
                    commits++;
                }
            }
            return commits;
        }

        int putsOf(int transaction) {
            int puts = 0;
            for (int record = 1; record <= size; record++) {
                if (isPutOf(record, transaction)) {
                    puts++;
                }
            }
            return puts;
        }

        boolean isPutOf(int record, int transaction) {
            return transactionOf(record) == transaction && kindOf(record) == PUT;
        }

        int lastPut(int transaction, int key, int position) {
            for (int record = position; record >= 1; record--) {
                if (isPutOf(record, transaction) && keyOf(record) == key) {
                    return record;
                }
            }
            return NO_RECORD;
        }

        int lastCommit(int key, int position) {
            for (int record = position; record >= 1; record--) {
                if (kindOf(record) == COMMIT && lastPut(transactionOf(record), key, record) != NO_RECORD) {
                    return record;
                }
            }
            return NO_RECORD;
        }

        /** The last commit alone decides: its puts come behind those of all commits ahead of it. */
        int valueAt(int key, int position) {
            int commit = lastCommit(key, position);
            if (commit == NO_RECORD) {
                return 0;
            }
            return valueIn(lastPut(transactionOf(commit), key, commit));
        }

        void fillValues(int position, int[] into) {
            for (int key = 0; key < into.length; key++) {
                into[key] = 0;
            }
            for (int record = 1; record <= position; record++) {
                if (kindOf(record) == COMMIT) {
                    applyPuts(transactionOf(record), record, into);
                }
            }
        }

        void applyPuts(int transaction, int commit, int[] into) {
            for (int record = 1; record < commit; record++) {
                if (isPutOf(record, transaction)) {
                    setValue(into, keyOf(record), valueIn(record));
                }
            }
        }

        static void setValue(int[] into, int key, int value) {
            if (key >= 0 && key < into.length) {
                into[key] = value;
            }
        }

        void copyFrom(Log other) {
            int many = Math.max(0, Math.min(other.size, RECORDS));
            System.arraycopy(other.kinds, 0, kinds, 0, many);
            System.arraycopy(other.transactions, 0, transactions, 0, many);
            System.arraycopy(other.keys, 0, keys, 0, many);
            System.arraycopy(other.values, 0, values, 0, many);
            System.arraycopy(other.ticks, 0, ticks, 0, many);
            size = many;
        }
    }

    private static final class Standby {
        int received = 0;
        int applied = 0;
        boolean astray = false;
        /** By the number of the record; the place 0 is never used. */
        final boolean[] gaps = new boolean[RECORDS + 1];

        boolean canServe(int fence) {
            return !astray && applied >= fence;
        }

        boolean isGap(int record) {
            return record >= 1 && record <= RECORDS && gaps[record];
        }

        void setGap(int record) {
            if (record >= 1 && record <= RECORDS) {
                gaps[record] = true;
            }
        }

        int gapCount() {
            int count = 0;
            for (int record = 1; record <= RECORDS; record++) {
                if (gaps[record]) {
                    count++;
                }
            }
            return count;
        }

        int lowestGap() {
            for (int record = 1; record <= RECORDS; record++) {
                if (gaps[record]) {
                    return record;
                }
            }
            return NO_RECORD;
        }

        int reachable() {
            int gap = lowestGap();
            return gap == NO_RECORD ? received : gap - 1;
        }

        void dropGapsBehind(int position) {
            for (int record = Math.max(0, position) + 1; record <= RECORDS; record++) {
                gaps[record] = false;
            }
        }

        void standAt(int position, boolean isAstray) {
            received = position;
            applied = position;
            astray = isAstray;
            dropGapsBehind(0);
        }

        /** For a log that was cut by the promotion of the other standby. */
        void cutTo(int position) {
            received = Math.min(received, position);
            dropGapsBehind(position);
            if (applied > position) {
                applied = position;
                astray = true;
            }
        }

        void copyFrom(Standby other) {
            received = other.received;
            applied = other.applied;
            astray = other.astray;
            for (int record = 0; record <= RECORDS; record++) {
                gaps[record] = other.gaps[record];
            }
        }
    }

    /** All that a state of the history holds. The changes are its methods, so that a text can make them on a copy. */
    private static final class Store {
        final Log log = new Log();
        final Standby first = new Standby();
        final Standby second = new Standby();
        final int[] slots = new int[SLOTS];
        int tick = 0;
        int timeline = 1;
        int transactions = 0;
        int commitsLost = 0;
        int recordsLost = 0;
        int recordsApplied = 0;
        int rate = 4;
        int delay = 2;

        Standby standby(int number) {
            return number == 0 ? first : second;
        }

        boolean isPosition(int position) {
            return position >= 0 && position <= log.size;
        }

        int transactionIn(int slot) {
            return isSlot(slot) ? slots[slot] : NO_TRANSACTION;
        }

        int openIn(int slot) {
            if (!isSlot(slot)) {
                return INVALID_ARGUMENT;
            }
            if (slots[slot] != NO_TRANSACTION) {
                return NOT_POSSIBLE;
            }
            transactions++;
            slots[slot] = transactions;
            return transactions;
        }

        int putBy(int slot, int key, int value) {
            if (!isSlot(slot) || !isKey(key) || value < 0 || value > MOST_VALUE) {
                return INVALID_ARGUMENT;
            }
            return write(PUT, slots[slot], key, value);
        }

        int endIn(int slot, int kind) {
            if (!isSlot(slot)) {
                return INVALID_ARGUMENT;
            }
            int record = write(kind, slots[slot], 0, 0);
            if (record >= 1) {
                slots[slot] = NO_TRANSACTION;
            }
            return record;
        }

        int write(int kind, int transaction, int key, int value) {
            if (transaction == NO_TRANSACTION) {
                return NOT_POSSIBLE;
            }
            return log.append(kind, transaction, key, value, tick);
        }

        int shipTo(int standby, int many) {
            if (!isStandby(standby) || many < 1 || many > MOST_SHIPPED) {
                return INVALID_ARGUMENT;
            }
            Standby it = standby(standby);
            if (it.astray) {
                return NOT_POSSIBLE;
            }
            int shipped = Math.min(many, log.size - it.received);
            it.received += shipped;
            return shipped;
        }

        int loseFor(int standby, int record) {
            if (!isStandby(standby) || record < 1) {
                return INVALID_ARGUMENT;
            }
            Standby it = standby(standby);
            if (it.astray || record > it.received || record <= it.applied || it.isGap(record)) {
                return NOT_POSSIBLE;
            }
            it.setGap(record);
            recordsLost++;
            return it.gapCount();
        }

        int resendTo(int standby) {
            if (!isStandby(standby)) {
                return INVALID_ARGUMENT;
            }
            Standby it = standby(standby);
            if (it.astray) {
                return NOT_POSSIBLE;
            }
            int gaps = it.gapCount();
            it.dropGapsBehind(0);
            return gaps;
        }

        int pass(int ticks) {
            if (!isTicks(ticks)) {
                return INVALID_ARGUMENT;
            }
            int applied = 0;
            for (int passed = 0; passed < ticks; passed++) {
                tick++;
                for (int number = 0; number < STANDBYS; number++) {
                    Standby it = standby(number);
                    int position = appliedAfter(it, it.applied, tick, rate);
                    applied += position - it.applied;
                    it.applied = position;
                }
            }
            recordsApplied += applied;
            return applied;
        }

        /** Takes position and tick from its caller, so that what would be is told by the same rule as what is. */
        int appliedAfter(Standby it, int position, int tickThen, int rateThen) {
            int at = position;
            if (it.astray) {
                return at;
            }
            for (int times = 0; times < rateThen; times++) {
                int next = at + 1;
                if (next > it.received || it.isGap(next) || log.tickOf(next) > tickThen - delay) {
                    return at;
                }
                at = next;
            }
            return at;
        }

        int ticksUntil(Standby it, int fence) {
            int at = it.applied;
            for (int ticks = 0; ticks <= MOST_WAIT; ticks++) {
                if (at >= fence) {
                    return ticks;
                }
                at = appliedAfter(it, at, tick + ticks + 1, rate);
            }
            return NOT_FOUND;
        }

        int leastRate(Standby it, int ticks) {
            int target = it.reachable();
            for (int tried = 1; tried <= MOST_RATE; tried++) {
                if (comesTo(it, target, ticks, tried)) {
                    return tried;
                }
            }
            return NOT_FOUND;
        }

        boolean comesTo(Standby it, int target, int ticks, int rateThen) {
            int at = it.applied;
            for (int passed = 1; passed <= ticks && at < target; passed++) {
                at = appliedAfter(it, at, tick + passed, rateThen);
            }
            return at >= target;
        }

        int promoteTo(int standby) {
            if (!isStandby(standby)) {
                return INVALID_ARGUMENT;
            }
            Standby it = standby(standby);
            if (it.astray) {
                return NOT_POSSIBLE;
            }
            int end = it.applied;
            int lost = log.commitsBehind(end);
            it.standAt(end, log.size > end);
            standby(1 - standby).cutTo(end);
            log.size = end;
            for (int slot = 0; slot < SLOTS; slot++) {
                slots[slot] = NO_TRANSACTION;
            }
            timeline++;
            commitsLost += lost;
            return lost;
        }

        int rebuildOf(int standby) {
            if (!isStandby(standby)) {
                return INVALID_ARGUMENT;
            }
            standby(standby).standAt(log.size, false);
            return log.size;
        }

        int setTo(int what, int value) {
            if (what == 0 && value >= 1 && value <= MOST_RATE) {
                int was = rate;
                rate = value;
                return was;
            }
            if (what == 1 && value >= 0 && value <= MOST_DELAY) {
                int was = delay;
                delay = value;
                return was;
            }
            return INVALID_ARGUMENT;
        }

        void copyFrom(Store other) {
            log.copyFrom(other.log);
            first.copyFrom(other.first);
            second.copyFrom(other.second);
            System.arraycopy(other.slots, 0, slots, 0, SLOTS);
            tick = other.tick;
            timeline = other.timeline;
            transactions = other.transactions;
            commitsLost = other.commitsLost;
            recordsLost = other.recordsLost;
            recordsApplied = other.recordsApplied;
            rate = other.rate;
            delay = other.delay;
        }
    }

    /** The oldest state comes first; a place more than the document's 4 takes the next one before that is dropped. */
    private static final class History {
        final Store[] states = new Store[STATES + 1];
        int size = 0;

        History() {
            for (int place = 0; place <= STATES; place++) {
                states[place] = new Store();
            }
        }

        /** Apart from keep(), because only the change itself tells whether it is possible. */
        void prepare(Store now) {
            if (size >= 0 && size <= STATES) {
                states[size].copyFrom(now);
            }
        }

        void keep() {
            if (size < STATES) {
                size++;
                return;
            }
            // The dropped state is used again, so that no call makes objects.
            Store oldest = states[0];
            for (int place = 0; place < STATES; place++) {
                states[place] = states[place + 1];
            }
            states[STATES] = oldest;
        }

        boolean restore(Store now) {
            if (size < 1 || size > STATES) {
                return false;
            }
            size--;
            now.copyFrom(states[size]);
            return true;
        }
    }

    /** The order that was read last stays in fields, so that reading makes no objects. */
    private static final class OrderText {
        static final char END = 0;
        static final char NUMBER = '#';

        final char[] characters = new char[CHARACTERS];
        int length = 0;
        int at = 0;
        int kind = END;
        final int[] numbers = new int[MOST_NUMBERS];
        int numbersRead = 0;

        boolean append(char character) {
            if (length < 0 || length >= CHARACTERS) {
                return false;
            }
            characters[length] = character;
            length++;
            return true;
        }

        char characterAt(int position) {
            return position >= 0 && position < length && position < CHARACTERS ? characters[position] : END;
        }

        int number(int which) {
            return which >= 0 && which < numbersRead && which < MOST_NUMBERS ? numbers[which] : 0;
        }

        /** Leaves "at" behind the order, or where it breaks off, for the cause of a fault. */
        boolean readOrder(int from) {
            at = from;
            numbersRead = 0;
            kind = characterAt(from);
            String form = formBehind(kind);
            if (form.isEmpty()) {
                return false;
            }
            at++;
            for (int part = 0; part < form.length(); part++) {
                if (!readPart(form.charAt(part))) {
                    return false;
                }
            }
            return true;
        }

        static String formBehind(int kind) {
            switch (kind) {
                case 'o':
                case 'c':
                case 'a':
                case 't':
                    return "#;";
                case 'p':
                    return "#,#=#;";
                case 's':
                    return "#,#;";
                default:
                    return "";
            }
        }

        boolean readPart(char part) {
            if (part == NUMBER) {
                return readNumber();
            }
            if (characterAt(at) != part) {
                return false;
            }
            at++;
            return true;
        }

        boolean readNumber() {
            int number = 0;
            int digits = 0;
            while (digits < DIGITS && isDigit(characterAt(at))) {
                number = number * 10 + (characterAt(at) - '0');
                digits++;
                at++;
            }
            if (digits == 0 || numbersRead < 0 || numbersRead >= MOST_NUMBERS) {
                return false;
            }
            numbers[numbersRead] = number;
            numbersRead++;
            return true;
        }

        static boolean isDigit(char character) {
            return character >= '0' && character <= '9';
        }
    }

    /** Does the orders of the text on a copy, so that a fault leaves the store as it was. */
    private static final class Trial {
        final Store store = new Store();
        int orders = 0;
        int position = 0;
        int reason = NO_FAULT;
        int cause = 0;

        void run(OrderText text, Store from) {
            store.copyFrom(from);
            position = 0;
            reason = NO_FAULT;
            cause = 0;
            for (orders = 0; orders < CHARACTERS && position < text.length; orders++) {
                if (!text.readOrder(position)) {
                    reason = NOT_OF_THE_FORM;
                    cause = text.at - position;
                    return;
                }
                int answer = doOrder(text);
                if (answer < 0) {
                    reason = REFUSED;
                    cause = answer;
                    return;
                }
                position = text.at;
            }
        }

        int doOrder(OrderText text) {
            int number = text.number(0);
            switch (text.kind) {
                case 'o':
                    return store.openIn(number);
                case 'p':
                    return store.putBy(number, text.number(1), text.number(2));
                case 'c':
                    return store.endIn(number, COMMIT);
                case 'a':
                    return store.endIn(number, ABORT);
                case 's':
                    return store.shipTo(number, text.number(1));
                default:
                    return store.pass(number);
            }
        }
    }
}
