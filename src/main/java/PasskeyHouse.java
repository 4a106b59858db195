import java.util.Arrays;

/** A house of passkeys: keys, hands with clients on them, and parties. The promises are in shared/DOC.md. */
public final class PasskeyHouse {

    public static final int NONE = -1;
    public static final int FOREIGN = -2;
    public static final int SILENT = -3;

    private static final int MOST_TAPE = 400;
    private static final int MOST_KEYS = 3;
    private static final int MOST_HANDS = 4;
    private static final int MOST_PARTIES = 4;
    private static final int MOST_OFFERS = 4;
    private static final int MOST_ACCOUNTS = 8;
    private static final int MOST_PRESSES = 9;
    private static final int MOST_CUT = 2000;
    private static final int MOST_USER = 8;
    private static final int MOST_NAME = 24;
    private static final int MOST_PAGE = 40;
    private static final int LEAST_PIN = 4;
    private static final int MOST_PIN = 12;
    private static final int POINT = 46;

    // The first numbers of the rows that terms are.
    private static final int FRESH = 1;
    private static final int PUBLIC = 2;
    private static final int AGREED = 3;
    private static final int ENC = 4;
    private static final int MAC = 5;
    private static final int SIGN = 6;
    private static final int HASH = 7;
    private static final int WRAP = 8;
    private static final int SENT = 9;
    private static final int MARK = 10;

    // Sorts of CBOR items; ANY_NUMBER stands for NUMBER or NEGATIVE where a member may be either.
    private static final int NUMBER = 0;
    private static final int NEGATIVE = 1;
    private static final int BYTES = 2;
    private static final int TEXT = 3;
    private static final int ARRAY = 4;
    private static final int MAP = 5;
    private static final int SIMPLE = 7;
    private static final int ANY_NUMBER = 8;
    private static final int FALSE = 20;
    private static final int TRUE = 21;
    private static final int MOST_NESTED = 4;
    private static final int MOST_NUMBER = 2147483647;
    // -7 is told as 6, negative, less 1.
    private static final int MINUS_SEVEN = 6;
    private static final int ROOT = 0;

    // The first bytes of messages.
    private static final int DO_MAKE = 1;
    private static final int DO_SIGN = 2;
    private static final int DO_INFO = 4;
    private static final int DO_PIN = 6;
    private static final int DO_RESET = 7;
    private static final int DO_NEXT = 8;

    // What a key answers first.
    private static final int DONE = 0;
    private static final int UNKNOWN_COMMAND = 1;
    private static final int WRONG_LENGTH = 2;
    private static final int WRONG_SIZE = 3;
    private static final int WRONG_SORT = 17;
    private static final int NOT_CBOR = 18;
    private static final int MISSING = 20;
    private static final int EXCLUDED = 25;
    private static final int NO_ALGORITHM = 38;
    private static final int NO_PRESS = 39;
    private static final int NO_ROOM = 40;
    private static final int NO_SUCH_OPTION = 43;
    private static final int NO_CREDENTIAL = 46;
    private static final int NOT_NOW = 48;
    private static final int PIN_WRONG = 49;
    private static final int PIN_BLOCKED = 50;
    private static final int PROOF_WRONG = 51;
    private static final int PIN_BLOCKED_TILL_POWER = 52;
    private static final int PIN_NOT_SET = 53;
    private static final int PIN_WANTED = 54;
    private static final int PIN_REFUSED = 55;

    // Steps of the PIN command.
    private static final int ASK_TRIES = 1;
    private static final int ASK_PUBLIC = 2;
    private static final int SET_PIN = 3;
    private static final int CHANGE_PIN = 4;
    private static final int ASK_TOKEN = 5;
    private static final int MOST_WRONG_SINCE_POWER = 3;

    // Flags of DATA.
    private static final int PRESSED = 1;
    private static final int PIN_PASSED = 4;
    private static final int HAS_ID = 64;
    private static final int DATA_OF_CREATE = 17;
    private static final int DATA_OF_GET = 9;

    // Where things lie in the key's answers, whose form is the same each time.
    private static final int TERM_IN_PIN_ANSWER = 4;
    private static final int DATA_IN_MAKE_ANSWER = 12;
    private static final int ID_IN_MAKE_ANSWER = 21;
    private static final int ID_IN_SIGN_ANSWER = 8;
    private static final int DATA_IN_SIGN_ANSWER = 30;
    private static final int SIGNATURE_IN_ANSWER = 41;

    private static final int OF_CREATE = 1;
    private static final int OF_GET = 2;
    // Stands for a credential's place where an id is of a key as a WRAP.
    private static final int WRAPPED = -2;

    private final Bytes tape;
    private final Bytes message;
    private final Terms rows;
    private final Items items;
    private final Key[] keys;
    private final Hand[] hands;
    private final Party[] parties;
    private int keyCount;
    private int partyCount;

    public PasskeyHouse() {
        tape = new Bytes(MOST_TAPE);
        message = new Bytes(MOST_TAPE);
        rows = new Terms();
        items = new Items();
        keys = new Key[MOST_KEYS];
        hands = new Hand[MOST_HANDS];
        for (int i = 0; i < hands.length; i++) {
            hands[i] = new Hand();
        }
        parties = new Party[MOST_PARTIES];
        keyCount = 0;
        partyCount = 0;
    }

    // ---- the tape and terms

    public int feed(long w, int n) {
        if (!isWithin(n, 1, 8) || tape.size() + n > MOST_TAPE) {
            return NONE;
        }
        tape.pushLow(w, n);
        return tape.size();
    }

    public int wipe() {
        int had = tape.size();
        tape.clear();
        return had;
    }

    public int at(int i) {
        return tape.item(i);
    }

    public int poke(int i, int v) {
        int was = tape.item(i);
        if (was == NONE || !isWithin(v, 0, 255)) {
            return NONE;
        }
        tape.put(i, v);
        return was;
    }

    public int terms() {
        return rows.count();
    }

    public int sort(int term) {
        return rows.part(term, 0);
    }

    // ---- keys

    public int key() {
        if (keyCount < 0 || keyCount >= keys.length) {
            return NONE;
        }
        Key made = new Key(rows, items);
        made.begin();
        keys[keyCount] = made;
        keyCount++;
        return keyCount - 1;
    }

    public boolean power(int key, boolean on) {
        Key k = keyAt(key);
        if (k == null) {
            return false;
        }
        k.switchTo(on);
        return k.isOn();
    }

    public int press(int key) {
        Key k = keyAt(key);
        return k == null ? NONE : k.addPress();
    }

    public boolean cut(int key, int acts) {
        Key k = keyAt(key);
        if (k == null || !isWithin(acts, NONE, MOST_CUT)) {
            return false;
        }
        k.failAfter(acts);
        return true;
    }

    public int command(int key, int n) {
        Key k = keyAt(key);
        int size = tapePart(n);
        if (k == null || size == NONE) {
            return NONE;
        }
        message.clear();
        message.pushPart(tape, 0, size);
        int status = k.receive(message);
        return status == SILENT ? SILENT : k.reply.size();
    }

    public int answer(int key, int i) {
        Key k = keyAt(key);
        return k == null ? NONE : k.reply.item(i);
    }

    public int take(int key) {
        Key k = keyAt(key);
        if (k == null || k.reply.size() == 0) {
            return NONE;
        }
        tape.clear();
        tape.pushPart(k.reply, 0, k.reply.size());
        return tape.size();
    }

    public int flash(int key, int i) {
        Key k = keyAt(key);
        return k == null ? NONE : k.store.cells.item(i);
    }

    public int told(int key, int what) {
        Key k = keyAt(key);
        if (k == null) {
            return NONE;
        }
        return what < 5 ? k.tells(what) : k.store.tells(what);
    }

    public int credential(int key, int i, int what) {
        Key k = keyAt(key);
        if (k == null || !k.isOn()) {
            return NONE;
        }
        Credential c = k.store.standing(i);
        return c == null ? NONE : c.tells(what);
    }

    // ---- hands

    public int own(int hand) {
        Hand h = handAt(hand);
        return h == null ? NONE : newOwn(h);
    }

    public boolean agree(int hand, int term) {
        Hand h = handAt(hand);
        int other = rows.secretOf(term);
        if (h == null || h.secret == 0 || other == 0) {
            return false;
        }
        agreeWith(h, other);
        return true;
    }

    public int seal(int hand, int what, int n) {
        Hand h = handAt(hand);
        int size = tapePart(n);
        if (h == null || size == NONE || !isWithin(what, 0, 4) || (what > 0 && h.sealsWith(what) == 0)) {
            return NONE;
        }
        rows.begin(h.sortOfSeal(what));
        if (what > 0) {
            rows.add(h.sealsWith(what));
        }
        rows.addBytes(tape, 0, size);
        return rows.made();
    }

    public int open(int hand, int term) {
        Hand h = handAt(hand);
        if (h == null || h.agreed == 0 || rows.part(term, 0) != ENC || rows.part(term, 1) != h.agreed) {
            return NONE;
        }
        tape.clear();
        int width = rows.width(term);
        for (int i = 2; i < width; i++) {
            tape.push(rows.part(term, i));
        }
        return tape.size();
    }

    public boolean token(int hand, int term) {
        Hand h = handAt(hand);
        return h != null && takeToken(h, term);
    }

    public boolean pin(int hand, int n) {
        Hand h = handAt(hand);
        if (h == null || !isWithin(n, 0, MOST_PIN) || n > tape.size()) {
            return false;
        }
        h.pin.clear();
        h.pin.pushPart(tape, 0, n);
        return true;
    }

    public boolean page(int hand, int n) {
        Hand h = handAt(hand);
        if (h == null || !isWithin(n, 0, MOST_PAGE) || n > tape.size()) {
            return false;
        }
        h.page.clear();
        h.page.pushPart(tape, 0, n);
        return true;
    }

    // ---- clients

    public int setPin(int hand, int key) {
        Hand h = handAt(hand);
        Key k = keyAt(key);
        if (h == null || k == null) {
            return NONE;
        }
        int own = newOwn(h);
        writeAgreeing();
        int status = k.receive(message);
        if (status != DONE) {
            return status;
        }
        agreeWithAnswer(h, k.reply);
        int secretPin = encrypted(h, h.pin, h.pin.size());
        int proof = proofOf(h, secretPin, 0);
        beginPinMessage(SET_PIN, own, 5);
        message.push(4);
        message.term(proof);
        message.push(5);
        message.term(secretPin);
        return k.receive(message);
    }

    public int changePin(int hand, int key, int n) {
        Hand h = handAt(hand);
        Key k = keyAt(key);
        if (h == null || k == null || !isWithin(n, 0, MOST_PIN) || n > tape.size()) {
            return NONE;
        }
        int own = newOwn(h);
        writeAgreeing();
        int status = k.receive(message);
        if (status != DONE) {
            return status;
        }
        agreeWithAnswer(h, k.reply);
        int secretPin = encrypted(h, tape, n);
        int secretHash = encryptedHash(h);
        int proof = proofOf(h, secretPin, secretHash);
        beginPinMessage(CHANGE_PIN, own, 6);
        message.push(4);
        message.term(proof);
        message.push(5);
        message.term(secretPin);
        message.push(6);
        message.term(secretHash);
        return k.receive(message);
    }

    public int unlock(int hand, int key) {
        Hand h = handAt(hand);
        Key k = keyAt(key);
        if (h == null || k == null) {
            return NONE;
        }
        int own = newOwn(h);
        writeAgreeing();
        int status = k.receive(message);
        if (status != DONE) {
            return status;
        }
        agreeWithAnswer(h, k.reply);
        int secretHash = encryptedHash(h);
        beginPinMessage(ASK_TOKEN, own, 4);
        message.push(6);
        message.term(secretHash);
        status = k.receive(message);
        if (status == DONE) {
            takeToken(h, k.reply.four(TERM_IN_PIN_ANSWER));
        }
        return status;
    }

    public int create(int hand, int key, int challenge, int party, long w, int m, int n, int how) {
        Hand h = handAt(hand);
        Key k = keyAt(key);
        if (h == null || k == null || !isWithin(how, 0, 7) || !areFit(party, m, n)) {
            return NONE;
        }
        if (!isRight(h.page, 0, h.page.size(), tape, 0, n)) {
            return FOREIGN;
        }
        Party p = partyAt(party);
        int asked = challengeOf(challenge, p);
        int hash = clientHash(OF_CREATE, asked, h.page);
        int mark = (how & 2) != 0 && h.token != 0 ? markOf(h.token, hash) : 0;
        long user = lowest(w, m);
        int entries = p == null || (how & 4) != 0 ? 0 : p.accountsOf(user, m);
        int more = (entries > 0 ? 1 : 0) + (how & 1) + (mark > 0 ? 2 : 0);
        beginMake(hash, user, m, n, more);
        if (entries > 0) {
            message.push(5);
            pushAccounts(p, user, m, entries);
        }
        if ((how & 1) != 0) {
            message.push(7);
            pushOption("rk", TRUE);
        }
        if (mark > 0) {
            pushMark(8, mark);
        }
        int status = k.receive(message);
        if (status == DONE) {
            beginResponse(OF_CREATE, asked, h.page);
            endResponse(k.reply, ID_IN_MAKE_ANSWER, DATA_IN_MAKE_ANSWER, DATA_OF_CREATE);
        }
        return status;
    }

    public int get(int hand, int key, int challenge, int party, long w, int m, int n, int how) {
        Hand h = handAt(hand);
        Key k = keyAt(key);
        if (h == null || k == null || !isWithin(how, 0, 15) || !areFit(party, m, n)) {
            return NONE;
        }
        if (!isRight(h.page, 0, h.page.size(), tape, 0, n)) {
            return FOREIGN;
        }
        Party p = partyAt(party);
        int asked = challengeOf(challenge, p);
        if ((how & 4) != 0) {
            message.clear();
            message.push(DO_NEXT);
        } else {
            Party listed = (how & 8) != 0 ? null : p;
            int hash = clientHash(OF_GET, asked, h.page);
            int mark = (how & 2) != 0 && h.token != 0 ? markOf(h.token, hash) : 0;
            writeSign(hash, mark, listed, lowest(w, m), m, n, (how & 1) != 0);
        }
        int status = k.receive(message);
        if (status == DONE) {
            beginResponse(OF_GET, asked, h.page);
            endResponse(k.reply, ID_IN_SIGN_ANSWER, DATA_IN_SIGN_ANSWER, DATA_OF_GET);
        }
        return status;
    }

    // ---- parties

    public int party(int n, int m) {
        if (partyCount < 0 || partyCount >= parties.length || !isWithin(n, 1, MOST_PAGE) || !isWithin(m, 1, MOST_NAME)) {
            return NONE;
        }
        if (n + m > tape.size() || !isRight(tape, 0, n, tape, n, m)) {
            return NONE;
        }
        Party made = new Party();
        made.origin.pushPart(tape, 0, n);
        made.name.pushPart(tape, n, m);
        parties[partyCount] = made;
        partyCount++;
        return partyCount - 1;
    }

    public int offer(int party, long w, int m, boolean get, boolean pin) {
        Party p = partyAt(party);
        if (p == null || !isWithin(m, 1, MOST_USER)) {
            return NONE;
        }
        Offer free = p.freeOffer();
        if (free == null) {
            return NONE;
        }
        free.challenge = rows.freshTerm();
        free.user = lowest(w, m);
        free.width = m;
        free.kind = get ? OF_GET : OF_CREATE;
        free.wantsPin = pin;
        return free.challenge;
    }

    public int judge(int party, int n) {
        Party p = partyAt(party);
        int size = tapePart(n);
        return p == null || size == NONE ? NONE : p.verdict(rows, tape, size);
    }

    public int withdraw(int party) {
        Party p = partyAt(party);
        if (p == null) {
            return NONE;
        }
        int had = p.offerCount;
        p.offerCount = 0;
        return had;
    }

    public int account(int party, int i, int what) {
        Party p = partyAt(party);
        if (p == null) {
            return NONE;
        }
        if (i == NONE) {
            return p.tells(what);
        }
        Account a = p.accountAt(i);
        return a == null ? NONE : a.tells(what);
    }

    // ---- what the calls share

    private static boolean isWithin(int v, int least, int most) {
        return v >= least && v <= most;
    }

    private static long lowest(long w, int bytes) {
        return bytes >= 8 ? w : w & ((1L << (8 * bytes)) - 1);
    }

    private static int byteOf(long w, int width, int j) {
        return j < 0 || j >= width ? NONE : (int) (w >>> (8 * (width - 1 - j))) & 255;
    }

    private static boolean isRight(Bytes page, int from, int size, Bytes names, int at, int n) {
        int start = size - n;
        if (start < 0 || (start > 0 && page.item(from + start - 1) != POINT)) {
            return false;
        }
        return page.matches(from + start, names, at, n);
    }

    private Key keyAt(int i) {
        return i < 0 || i >= keys.length ? null : keys[i];
    }

    private Hand handAt(int i) {
        return i < 0 || i >= hands.length ? null : hands[i];
    }

    private Party partyAt(int i) {
        return i < 0 || i >= parties.length ? null : parties[i];
    }

    private int tapePart(int n) {
        if (n == NONE) {
            return tape.size();
        }
        return n < 0 || n > tape.size() ? NONE : n;
    }

    private int newOwn(Hand h) {
        h.secret = rows.newSecret();
        h.agreed = 0;
        h.token = 0;
        return rows.publicOf(h.secret);
    }

    private void agreeWith(Hand h, int other) {
        rows.beginAgreed(h.secret, other);
        h.agreed = rows.made();
    }

    private boolean takeToken(Hand h, int term) {
        if (h.agreed == 0 || rows.part(term, 0) != SENT || rows.part(term, 1) != h.agreed) {
            return false;
        }
        h.token = rows.part(term, 2);
        return true;
    }

    private void agreeWithAnswer(Hand h, Bytes reply) {
        agreeWith(h, rows.secretOf(reply.four(TERM_IN_PIN_ANSWER)));
    }

    private void writeAgreeing() {
        message.clear();
        message.push(DO_PIN);
        message.head(MAP, 2);
        message.push(1);
        message.push(1);
        message.push(2);
        message.push(ASK_PUBLIC);
    }

    private void beginPinMessage(int step, int own, int members) {
        message.clear();
        message.push(DO_PIN);
        message.head(MAP, members);
        message.push(1);
        message.push(1);
        message.push(2);
        message.push(step);
        message.push(3);
        message.term(own);
    }

    private int encrypted(Hand h, Bytes source, int n) {
        rows.begin(ENC);
        rows.add(h.agreed);
        rows.addBytes(source, 0, n);
        return rows.made();
    }

    private int encryptedHash(Hand h) {
        rows.begin(HASH);
        rows.addBytes(h.pin, 0, h.pin.size());
        int hash = rows.made();
        rows.begin(ENC);
        rows.add(h.agreed);
        rows.addFour(hash);
        return rows.made();
    }

    private int proofOf(Hand h, int first, int second) {
        rows.begin(MAC);
        rows.add(h.agreed);
        rows.addFour(first);
        if (second != 0) {
            rows.addFour(second);
        }
        return rows.made();
    }

    private boolean areFit(int party, int m, int n) {
        boolean known = party == NONE || partyAt(party) != null;
        return known && isWithin(m, 1, MOST_USER) && isWithin(n, 1, MOST_NAME) && n <= tape.size();
    }

    private int challengeOf(int challenge, Party p) {
        return challenge != 0 || p == null ? challenge : p.latestChallenge();
    }

    private int clientHash(int kind, int challenge, Bytes page) {
        rows.begin(HASH);
        rows.add(kind);
        rows.addFour(challenge);
        rows.addBytes(page, 0, page.size());
        return rows.made();
    }

    private int markOf(int token, int hash) {
        rows.begin(MARK);
        rows.add(token);
        rows.addFour(hash);
        return rows.made();
    }

    private void beginMake(int hash, long user, int m, int n, int more) {
        message.clear();
        message.push(DO_MAKE);
        message.head(MAP, 4 + more);
        message.push(1);
        message.term(hash);
        message.push(2);
        message.head(MAP, 1);
        message.text("id");
        message.head(TEXT, n);
        message.pushPart(tape, 0, n);
        message.push(3);
        message.head(MAP, 1);
        message.text("id");
        message.head(BYTES, m);
        message.pushLow(user, m);
        message.push(4);
        message.head(ARRAY, 1);
        message.head(MAP, 2);
        message.text("alg");
        message.head(NEGATIVE, MINUS_SEVEN);
        message.text("type");
        message.text("public-key");
    }

    private void writeSign(int hash, int mark, Party listed, long user, int m, int n, boolean unpressed) {
        int entries = listed == null ? 0 : listed.accountsOf(user, m);
        message.clear();
        message.push(DO_SIGN);
        message.head(MAP, 2 + (entries > 0 ? 1 : 0) + (unpressed ? 1 : 0) + (mark > 0 ? 2 : 0));
        message.push(1);
        message.head(TEXT, n);
        message.pushPart(tape, 0, n);
        message.push(2);
        message.term(hash);
        if (entries > 0) {
            message.push(3);
            pushAccounts(listed, user, m, entries);
        }
        if (unpressed) {
            message.push(5);
            pushOption("up", FALSE);
        }
        if (mark > 0) {
            pushMark(6, mark);
        }
    }

    private void pushAccounts(Party p, long user, int m, int entries) {
        message.head(ARRAY, entries);
        for (int i = 0; p != null && i < p.accountCount; i++) {
            Account a = p.accountAt(i);
            if (a != null && a.isOf(user, m)) {
                message.head(MAP, 2);
                message.text("id");
                message.term(a.id);
                message.text("type");
                message.text("public-key");
            }
        }
    }

    private void pushOption(String name, int value) {
        message.head(MAP, 1);
        message.text(name);
        message.head(SIMPLE, value);
    }

    private void pushMark(int member, int mark) {
        message.push(member);
        message.term(mark);
        message.push(member + 1);
        message.push(1);
    }

    private void beginResponse(int kind, int challenge, Bytes page) {
        tape.clear();
        tape.push(kind);
        tape.pushLow(challenge, 4);
        tape.push(page.size());
        tape.pushPart(page, 0, page.size());
    }

    private void endResponse(Bytes reply, int id, int data, int size) {
        tape.pushPart(reply, id, 4);
        tape.push(size);
        tape.pushPart(reply, data, size);
        tape.pushPart(reply, SIGNATURE_IN_ANSWER, 4);
    }

    /** A row of bytes with a fixed room; what does not fit is left out. */
    private static final class Bytes {
        private final int[] cells;
        private int size;

        Bytes(int room) {
            cells = new int[Math.max(room, 0)];
            size = 0;
        }

        int size() {
            return size;
        }

        int item(int i) {
            return i < 0 || i >= size || i >= cells.length ? NONE : cells[i];
        }

        void put(int i, int v) {
            if (i >= 0 && i < size && i < cells.length) {
                cells[i] = v & 255;
            }
        }

        void clear() {
            size = 0;
        }

        void refill(int v) {
            Arrays.fill(cells, v);
            size = cells.length;
        }

        void push(int v) {
            if (size >= 0 && size < cells.length) {
                cells[size] = v & 255;
                size++;
            }
        }

        // This, low and check call nothing: they are the deepest calls when a key writes.
        void pushLow(long w, int n) {
            for (int j = n - 1; j >= 0; j--) {
                if (size >= 0 && size < cells.length) {
                    cells[size] = (int) (w >>> (8 * j)) & 255;
                    size++;
                }
            }
        }

        void pushPart(Bytes source, int at, int n) {
            for (int j = 0; j < n; j++) {
                int v = source.item(at + j);
                if (v != NONE) {
                    push(v);
                }
            }
        }

        long low(int at, int n) {
            long w = 0;
            for (int i = at; i < at + n; i++) {
                w = (w << 8) | (i < 0 || i >= cells.length ? 0 : cells[i]);
            }
            return w;
        }

        int four(int at) {
            return (int) low(at, 4);
        }

        int check(int at, int n) {
            int c = 0;
            for (int i = at; i < at + n; i++) {
                int v = i < 0 || i >= cells.length ? 0 : cells[i];
                c = (31 * c + v + 7) & 65535;
            }
            return c == 65535 ? 0 : c;
        }

        boolean matches(int at, Bytes other, int from, int n) {
            for (int j = 0; j < n; j++) {
                int v = item(at + j);
                if (v == NONE || v != other.item(from + j)) {
                    return false;
                }
            }
            return true;
        }

        void head(int sort, int n) {
            int high = sort << 5;
            if (n < 24) {
                push(high | n);
            } else if (n < 256) {
                push(high | 24);
                push(n);
            } else {
                push(high | 25);
                pushLow(n, 2);
            }
        }

        void text(String s) {
            head(TEXT, s.length());
            for (int i = 0; i < s.length(); i++) {
                push(s.charAt(i));
            }
        }

        void term(int t) {
            head(BYTES, 4);
            pushLow(t, 4);
        }
    }

    /** All rows that were made terms, and the numbers of secrets; a row is built here before it is asked for. */
    private static final class Terms {
        private static final int BUCKETS = 1024;
        private static final int MOST_ROW = 2 + MOST_TAPE + 8;
        // Far above what 512 calls can make.
        private static final int MOST_TERMS = 1 << 14;
        private static final int MOST_NUMBERS = 1 << 19;

        private int[] pool;
        private int[] ends;
        private int[] older;
        private final int[] latest;
        private final int[] row;
        private int width;
        private int count;
        private int freshCount;
        private int secrets;

        Terms() {
            pool = new int[2048];
            ends = new int[256];
            older = new int[256];
            latest = new int[BUCKETS];
            row = new int[MOST_ROW];
            width = 0;
            count = 0;
            freshCount = 0;
            secrets = 0;
        }

        int count() {
            return count;
        }

        void begin(int kind) {
            width = 0;
            add(kind);
        }

        void beginAgreed(int one, int other) {
            begin(AGREED);
            add(Math.min(one, other));
            add(Math.max(one, other));
        }

        void add(int v) {
            if (width >= 0 && width < row.length) {
                row[width] = v;
                width++;
            }
        }

        void addFour(int v) {
            for (int shift = 24; shift >= 0; shift -= 8) {
                add((v >>> shift) & 255);
            }
        }

        void addBytes(Bytes source, int at, int n) {
            for (int j = 0; j < n; j++) {
                add(source.item(at + j) & 255);
            }
        }

        void addPartsOf(int term, int first) {
            int n = width(term);
            for (int i = first; i < n; i++) {
                add(part(term, i));
            }
        }

        /** The number of the row that was built, 0 when it is no term; none is made by this. */
        int known() {
            int bucket = bucketOfRow();
            int t = bucket < 0 || bucket >= latest.length ? 0 : latest[bucket];
            for (int steps = 0; t > 0 && t < older.length && steps < MOST_TERMS; steps++) {
                if (isRow(t)) {
                    return t;
                }
                t = older[t];
            }
            return 0;
        }

        int made() {
            int t = known();
            if (t > 0) {
                return t;
            }
            makeRoom();
            return added();
        }

        int freshTerm() {
            begin(FRESH);
            add(freshCount);
            freshCount++;
            return made();
        }

        int newSecret() {
            secrets++;
            return secrets;
        }

        int publicOf(int secret) {
            begin(PUBLIC);
            add(secret);
            return made();
        }

        /** The secret of a PUBLIC; 0 for what is none. */
        int secretOf(int term) {
            return part(term, 0) == PUBLIC ? part(term, 1) : 0;
        }

        int width(int term) {
            if (term < 1 || term > count || term >= ends.length) {
                return 0;
            }
            return ends[term] - ends[term - 1];
        }

        int part(int term, int i) {
            if (i < 0 || i >= width(term) || term < 1 || term >= ends.length) {
                return NONE;
            }
            int at = ends[term - 1] + i;
            return at < 0 || at >= pool.length ? NONE : pool[at];
        }

        private int bucketOfRow() {
            int h = 17;
            for (int i = 0; i < width && i < row.length; i++) {
                h = 31 * h + row[i];
            }
            return (h ^ (h >>> 15)) & (BUCKETS - 1);
        }

        private boolean isRow(int t) {
            if (t < 1 || t >= ends.length || ends[t] - ends[t - 1] != width) {
                return false;
            }
            int from = ends[t - 1];
            for (int i = 0; i < width; i++) {
                int at = from + i;
                if (i >= row.length || at < 0 || at >= pool.length || pool[at] != row[i]) {
                    return false;
                }
            }
            return true;
        }

        private int added() {
            int t = count + 1;
            int from = count < 0 || count >= ends.length ? MOST_NUMBERS : ends[count];
            if (t >= ends.length || t >= older.length || from < 0 || from + width > pool.length) {
                return 0;
            }
            for (int i = 0; i < width && i < row.length; i++) {
                pool[from + i] = row[i];
            }
            ends[t] = from + width;
            int bucket = bucketOfRow();
            if (bucket >= 0 && bucket < latest.length) {
                older[t] = latest[bucket];
                latest[bucket] = t;
            }
            count = t;
            return t;
        }

        private void makeRoom() {
            if (count + 1 >= ends.length && ends.length < MOST_TERMS) {
                ends = Arrays.copyOf(ends, 2 * ends.length);
                older = Arrays.copyOf(older, ends.length);
            }
            int used = count < 0 || count >= ends.length ? 0 : ends[count];
            if (used + row.length > pool.length && pool.length < MOST_NUMBERS) {
                pool = Arrays.copyOf(pool, 2 * pool.length);
            }
        }
    }

    /** The items of a message, in the order of their heads; item 0 is the one that all others lie in. */
    private static final class Items {
        private final int[] sorts;
        private final int[] values;
        private final int[] heads;
        private final int[] ends;
        private final int[] nexts;
        private Bytes source;
        private int count;
        private int place;

        Items() {
            sorts = new int[MOST_TAPE];
            values = new int[MOST_TAPE];
            heads = new int[MOST_TAPE];
            ends = new int[MOST_TAPE];
            nexts = new int[MOST_TAPE];
            source = new Bytes(0);
            count = 0;
            place = 0;
        }

        /** Whether all bytes behind the first are one canonical item. */
        boolean parse(Bytes message) {
            source = message;
            count = 0;
            place = 1;
            return readItem(0) && place == message.size();
        }

        private boolean readItem(int around) {
            int self = readHead();
            if (self < 0 || self >= sorts.length || around > MOST_NESTED) {
                return false;
            }
            int sort = sorts[self];
            int n = values[self];
            if (sort == BYTES || sort == TEXT) {
                place += n;
            } else if (sort == ARRAY || sort == MAP) {
                if (around >= MOST_NESTED) {
                    return false;
                }
                int before = NONE;
                for (int i = 0; i < n; i++) {
                    int keyItem = count;
                    if (sort == MAP && (!readItem(around + 1) || !keyMayStand(before, keyItem))) {
                        return false;
                    }
                    before = keyItem;
                    if (!readItem(around + 1)) {
                        return false;
                    }
                }
            }
            ends[self] = place;
            nexts[self] = count;
            return true;
        }

        /** Reads a head into a new item and answers the item, or NONE. */
        private int readHead() {
            int head = place;
            int first = source.item(head);
            if (first == NONE || count < 0 || count >= sorts.length) {
                return NONE;
            }
            place++;
            int sort = first >> 5;
            int x = first & 31;
            long n = x;
            if (x > 26 || sort == 6) {
                return NONE;
            }
            if (x >= 24) {
                int bytes = 1 << (x - 24);
                long least = x == 24 ? 24 : x == 25 ? 256 : 65536;
                n = source.low(place, bytes);
                place += bytes;
                if (n < least || n > MOST_NUMBER) {
                    return NONE;
                }
            }
            int left = source.size() - place;
            if (left < 0 || (sort >= BYTES && sort <= MAP && n > left) || (sort == SIMPLE && n != FALSE && n != TRUE)) {
                return NONE;
            }
            sorts[count] = sort;
            values[count] = (int) n;
            heads[count] = head;
            count++;
            return count - 1;
        }

        /** Whether an item may be a key of a map behind the key before it (NONE for the first). */
        private boolean keyMayStand(int before, int item) {
            int sort = sortOf(item);
            if (sort != NUMBER && sort != NEGATIVE && sort != TEXT) {
                return false;
            }
            if (before < 0 || before >= ends.length || item >= ends.length) {
                return true;
            }
            if (sort != sorts[before]) {
                return sort > sorts[before];
            }
            int size = ends[item] - heads[item];
            int sizeBefore = ends[before] - heads[before];
            if (size != sizeBefore) {
                return size > sizeBefore;
            }
            for (int j = 0; j < size; j++) {
                int difference = source.item(heads[item] + j) - source.item(heads[before] + j);
                if (difference != 0) {
                    return difference > 0;
                }
            }
            return false;
        }

        int sortOf(int item) {
            return item < 0 || item >= count || item >= sorts.length ? NONE : sorts[item];
        }

        /** The number, the length, or how many items or pairs; 0 for no item. */
        int valueOf(int item) {
            return item < 0 || item >= count || item >= values.length ? 0 : values[item];
        }

        int nextOf(int item) {
            return item < 0 || item >= count || item >= nexts.length ? count : nexts[item];
        }

        int contentOf(int item) {
            return item < 0 || item >= count || item >= ends.length ? 0 : ends[item] - values[item];
        }

        int member(int map, int number) {
            int pairs = sortOf(map) == MAP ? valueOf(map) : 0;
            int k = map + 1;
            for (int i = 0; i < pairs; i++) {
                if (sortOf(k) == NUMBER && valueOf(k) == number) {
                    return k + 1;
                }
                k = nextOf(k + 1);
            }
            return NONE;
        }

        int named(int map, String name) {
            int pairs = sortOf(map) == MAP ? valueOf(map) : 0;
            int k = map + 1;
            for (int i = 0; i < pairs; i++) {
                if (saysText(k, name)) {
                    return k + 1;
                }
                k = nextOf(k + 1);
            }
            return NONE;
        }

        boolean saysText(int item, String text) {
            if (sortOf(item) != TEXT || valueOf(item) != text.length()) {
                return false;
            }
            int from = contentOf(item);
            for (int i = 0; i < text.length(); i++) {
                if (source.item(from + i) != text.charAt(i)) {
                    return false;
                }
            }
            return true;
        }

        boolean isTrue(int item) {
            return sortOf(item) == SIMPLE && valueOf(item) == TRUE;
        }

        boolean isFalse(int item) {
            return sortOf(item) == SIMPLE && valueOf(item) == FALSE;
        }

        /** The four bytes of an item as a number; 0, which is no term, for another item. */
        int four(int item) {
            return sortOf(item) == BYTES && valueOf(item) == 4 ? (int) low(item) : 0;
        }

        long low(int item) {
            return source.low(contentOf(item), valueOf(item));
        }

        boolean fits(int item, int sort) {
            int is = sortOf(item);
            return item == NONE || is == sort || (sort == ANY_NUMBER && (is == NUMBER || is == NEGATIVE));
        }

        boolean isLong(int item, int least, int most) {
            return valueOf(item) >= least && valueOf(item) <= most;
        }

        /** Whether a list, if there is one, is an array of maps; a name and "type" in them are of their sorts. */
        boolean listFits(int list, String name, int sort) {
            if (!fits(list, ARRAY)) {
                return false;
            }
            int entry = list + 1;
            for (int i = 0; i < valueOf(list); i++) {
                if (sortOf(entry) != MAP || !fits(named(entry, name), sort) || !fits(named(entry, "type"), TEXT)) {
                    return false;
                }
                entry = nextOf(entry);
            }
            return true;
        }

        /** Whether the name and "type" are there in all entries. */
        boolean listIsWhole(int list, String name) {
            int entry = list + 1;
            for (int i = 0; i < valueOf(list); i++) {
                if (named(entry, name) == NONE || named(entry, "type") == NONE) {
                    return false;
                }
                entry = nextOf(entry);
            }
            return true;
        }

        boolean isPublicKey(int entry) {
            return saysText(named(entry, "type"), "public-key");
        }
    }

    /** A credential that stands in a key. */
    private static final class Credential {
        private int id;
        private int party;
        private int secret;
        private long user;
        private int width;
        private int count;

        int tells(int what) {
            switch (what) {
                case 0:
                    return id;
                case 1:
                    return party;
                case 2:
                    return count;
                case 3:
                    return width;
                default:
                    return what < 4 ? NONE : byteOf(user, width, what - 4);
            }
        }
    }

    /** The flash of a key, its power, and what the records in the area in use say together. */
    private static final class Store {
        private static final int AREA = 256;
        private static final int PAGE = 64;
        private static final int HEADER = 4;
        private static final int ERASED = 255;
        private static final int IS_MASTER = 1;
        private static final int IS_PIN = 2;
        private static final int IS_TRIES = 3;
        private static final int IS_COUNT = 4;
        private static final int IS_CREDENTIAL = 5;
        private static final int[] LEAST_LENGTH = {0, 4, 4, 1, 8, 13};
        private static final int[] MOST_LENGTH = {0, 4, 4, 1, 8, 20};
        private static final int MOST_TRIES = 8;
        private static final int MOST_CREDENTIALS = 8;
        private static final int ROOM_OF_OTHERS = 61;
        private static final int ROOM_OF_CREDENTIAL = 28;

        private final Bytes cells;
        private final Bytes record;
        private final Credential[] credentials;
        private final Credential coming;
        private boolean on;
        private int acts;
        private int left;
        private int area;
        private int generation;
        private int end;
        private int master;
        private int pin;
        private int tries;
        private int count;
        private int held;

        Store() {
            cells = new Bytes(2 * AREA);
            record = new Bytes(24);
            credentials = new Credential[MOST_CREDENTIALS];
            for (int i = 0; i < credentials.length; i++) {
                credentials[i] = new Credential();
            }
            coming = new Credential();
            on = false;
            acts = 0;
            left = NONE;
        }

        /** As a new key: no acts are counted for it. */
        void format(int freshMaster) {
            cells.refill(ERASED);
            composeHeader(1);
            copyRecord(0);
            compose(IS_MASTER, freshMaster, 0, null);
            copyRecord(HEADER);
        }

        private void copyRecord(int at) {
            for (int i = 0; i < record.size(); i++) {
                cells.put(at + i, record.item(i));
            }
        }

        void wake() {
            on = true;
            int first = goodGeneration(0);
            int second = goodGeneration(1);
            area = second > first ? 1 : 0;
            generation = Math.max(first, second);
            forget();
            end = HEADER;
            int n = recordSize(end);
            for (int i = 0; i < AREA && n > 0; i++) {
                learn(end);
                end += n;
                n = recordSize(end);
            }
            if (!isErasedFrom(end)) {
                move();
            }
        }

        private int goodGeneration(int which) {
            int base = which * AREA;
            boolean good = cells.low(base + 2, 2) == cells.check(base, 2);
            return good ? (int) cells.low(base, 2) : NONE;
        }

        private void forget() {
            master = 0;
            pin = 0;
            tries = MOST_TRIES;
            count = 0;
            held = 0;
        }

        /** How many bytes the record at a place of the area has in all; 0 when it is none. */
        private int recordSize(int at) {
            int base = area * AREA + at;
            if (at + 4 > AREA) {
                return 0;
            }
            int kind = cells.item(base);
            int n = cells.item(base + 1);
            if (kind < 1 || kind >= LEAST_LENGTH.length || kind >= MOST_LENGTH.length) {
                return 0;
            }
            if (n < LEAST_LENGTH[kind] || n > MOST_LENGTH[kind] || at + n + 4 > AREA) {
                return 0;
            }
            return cells.low(base + 2 + n, 2) == cells.check(base, 2 + n) ? n + 4 : 0;
        }

        private boolean isErasedFrom(int at) {
            for (int i = at; i < AREA; i++) {
                if (cells.item(area * AREA + i) != ERASED) {
                    return false;
                }
            }
            return true;
        }

        /** Takes in what the record at a place of the area says. */
        private void learn(int at) {
            int base = area * AREA + at;
            int body = base + 2;
            switch (cells.item(base)) {
                case IS_MASTER:
                    master = cells.four(body);
                    break;
                case IS_PIN:
                    pin = cells.four(body);
                    tries = MOST_TRIES;
                    break;
                case IS_TRIES:
                    tries = cells.item(body);
                    break;
                case IS_COUNT:
                    learnCount(cells.four(body), cells.four(body + 4));
                    break;
                case IS_CREDENTIAL:
                    learnCredential(body, cells.item(base + 1) - 12);
                    break;
                default:
                    break;
            }
        }

        private void learnCount(int id, int many) {
            if (id == 0) {
                count = many;
                return;
            }
            for (int i = 0; i < held && i < credentials.length; i++) {
                if (credentials[i] != null && credentials[i].id == id) {
                    credentials[i].count = many;
                }
            }
        }

        private void learnCredential(int body, int width) {
            int party = (int) cells.low(body + 4, 4);
            long user = cells.low(body + 12, width);
            int place = placeOf(party, user, width);
            if (place < 0 || place >= credentials.length || credentials[place] == null) {
                return;
            }
            Credential c = credentials[place];
            c.id = (int) cells.low(body, 4);
            c.party = party;
            c.secret = (int) cells.low(body + 8, 4);
            c.user = user;
            c.width = width;
            c.count = 0;
            held = Math.max(held, place + 1);
        }

        /** Where a credential of a party and user stands, or would: behind all others. */
        private int placeOf(int party, long user, int width) {
            for (int i = 0; i < held && i < credentials.length; i++) {
                Credential c = credentials[i];
                if (c != null && c.party == party && c.user == user && c.width == width) {
                    return i;
                }
            }
            return held;
        }

        /** Whether one more act is done: power may fail before it. */
        private boolean isDone() {
            if (!on) {
                return false;
            }
            if (left == 0) {
                left = NONE;
                on = false;
                return false;
            }
            if (left > 0) {
                left--;
            }
            acts++;
            return true;
        }

        /** Writes the record that was composed; whether power lasted. */
        private boolean lay(int at) {
            for (int i = 0; i < record.size(); i++) {
                if (!isDone()) {
                    return false;
                }
                cells.put(at + i, record.item(i));
            }
            return true;
        }

        private boolean erase(int which) {
            for (int i = which * AREA; i < (which + 1) * AREA; i++) {
                if (i % PAGE == 0 && !isDone()) {
                    return false;
                }
                cells.put(i, ERASED);
            }
            return true;
        }

        private void compose(int kind, int a, int b, Credential c) {
            record.clear();
            record.push(kind);
            switch (kind) {
                case IS_TRIES:
                    record.push(1);
                    record.push(a);
                    break;
                case IS_COUNT:
                    record.push(8);
                    record.pushLow(a, 4);
                    record.pushLow(b, 4);
                    break;
                case IS_CREDENTIAL:
                    if (c != null) {
                        record.push(12 + c.width);
                        record.pushLow(c.id, 4);
                        record.pushLow(c.party, 4);
                        record.pushLow(c.secret, 4);
                        record.pushLow(c.user, c.width);
                    }
                    break;
                default:
                    record.push(4);
                    record.pushLow(a, 4);
                    break;
            }
            record.pushLow(record.check(0, record.size()), 2);
        }

        private void composeHeader(int number) {
            record.clear();
            record.pushLow(number, 2);
            record.pushLow(record.check(0, 2), 2);
        }

        /** Whether a record of a kind is due for what there is (c is null for the key's own). */
        private boolean isDue(int kind, Credential c) {
            switch (kind) {
                case IS_PIN:
                    return pin != 0;
                case IS_TRIES:
                    return tries != MOST_TRIES;
                case IS_COUNT:
                    return (c == null ? count : c.count) != 0;
                default:
                    return true;
            }
        }

        private int firstOf(int kind, Credential c) {
            switch (kind) {
                case IS_MASTER:
                    return master;
                case IS_PIN:
                    return pin;
                case IS_TRIES:
                    return tries;
                default:
                    return c == null ? 0 : c.id;
            }
        }

        private boolean move() {
            int other = 1 - area;
            if (!erase(other)) {
                return false;
            }
            int to = HEADER;
            for (int r = 0; r < 4 + 2 * held; r++) {
                Credential c = r < 4 ? null : standing((r - 4) >> 1);
                int kind = r < 4 ? r + 1 : IS_CREDENTIAL - (r & 1);
                if (isDue(kind, c)) {
                    compose(kind, firstOf(kind, c), c == null ? count : c.count, c);
                    if (!lay(other * AREA + to)) {
                        return false;
                    }
                    to += record.size();
                }
            }
            composeHeader(generation + 1);
            if (!lay(other * AREA)) {
                return false;
            }
            area = other;
            generation++;
            end = to;
            return true;
        }

        /** Writes a record, and what it says holds then; whether power lasted. */
        boolean write(int kind, int a, int b, Credential c) {
            compose(kind, a, b, c);
            int size = record.size();
            if (end + size > AREA) {
                if (!move()) {
                    return false;
                }
                compose(kind, a, b, c);
            }
            if (end + size > AREA || !lay(area * AREA + end)) {
                return false;
            }
            learn(end);
            end += size;
            return true;
        }

        /** Nothing but a new master is left; it moves. */
        boolean reset(int freshMaster) {
            forget();
            master = freshMaster;
            return move();
        }

        boolean hasRoom(int party, long user, int width) {
            int needed = ROOM_OF_OTHERS + ROOM_OF_CREDENTIAL + width;
            int place = placeOf(party, user, width);
            for (int i = 0; i < held; i++) {
                Credential c = standing(i);
                if (c != null && i != place) {
                    needed += ROOM_OF_CREDENTIAL + c.width;
                }
            }
            return needed <= AREA;
        }

        Credential standing(int i) {
            return i < 0 || i >= held || i >= credentials.length ? null : credentials[i];
        }

        int withId(int id, int party) {
            for (int i = 0; i < held; i++) {
                Credential c = standing(i);
                if (c != null && c.id == id && c.party == party) {
                    return i;
                }
            }
            return NONE;
        }

        /** The last credential of a party before a place, or NONE. */
        int lastBefore(int place, int party) {
            for (int i = place - 1; i >= 0; i--) {
                Credential c = standing(i);
                if (c != null && c.party == party) {
                    return i;
                }
            }
            return NONE;
        }

        int countOfParty(int party) {
            int many = 0;
            for (int i = 0; i < held; i++) {
                Credential c = standing(i);
                many += c != null && c.party == party ? 1 : 0;
            }
            return many;
        }

        int tells(int what) {
            if (!on) {
                return NONE;
            }
            switch (what) {
                case 5:
                    return generation;
                case 6:
                    return area;
                case 7:
                    return end;
                case 8:
                    return held;
                case 9:
                    return tries;
                case 10:
                    return pin != 0 ? 1 : 0;
                case 11:
                    return count;
                default:
                    return NONE;
            }
        }
    }

    /** A key: it takes messages and answers them. */
    private static final class Key {
        private final Terms rows;
        private final Items items;
        private final Store store;
        private final Bytes reply;
        private final Bytes data;
        private int waiting;
        private int taken;
        private int answered;
        private int agreeSecret;
        private int tokenSecret;
        private int wrong;
        private boolean commanded;
        // The list: credentials of listParty before this place are still to sign; 0 is no list.
        private int listPlace;
        private int listParty;
        private int listHash;
        private int listFlags;

        Key(Terms rows, Items items) {
            this.rows = rows;
            this.items = items;
            store = new Store();
            reply = new Bytes(MOST_TAPE);
            data = new Bytes(DATA_OF_CREATE);
        }

        void begin() {
            store.format(rows.freshTerm());
            wake();
        }

        boolean isOn() {
            return store.on;
        }

        void switchTo(boolean power) {
            if (!power) {
                store.on = false;
            } else if (!store.on) {
                wake();
            }
        }

        private void wake() {
            store.wake();
            if (store.on) {
                renew();
                listPlace = 0;
                commanded = false;
            }
        }

        private void renew() {
            agreeSecret = rows.newSecret();
            tokenSecret = rows.newSecret();
            wrong = 0;
        }

        int addPress() {
            if (waiting >= MOST_PRESSES) {
                return NONE;
            }
            waiting++;
            return waiting;
        }

        void failAfter(int acts) {
            store.left = acts;
        }

        int tells(int what) {
            switch (what) {
                case 0:
                    return store.on ? 1 : 0;
                case 1:
                    return store.acts;
                case 2:
                    return waiting;
                case 3:
                    return taken;
                case 4:
                    return answered;
                default:
                    return NONE;
            }
        }

        /** Answers a message into reply: the status, or SILENT when the key is off or went off. */
        int receive(Bytes message) {
            reply.clear();
            if (!store.on) {
                return SILENT;
            }
            int first = message.item(0);
            if (first != DO_NEXT || message.size() != 1) {
                listPlace = 0;
            }
            reply.push(DONE);
            int status = formFault(message, first);
            if (status == DONE) {
                switch (first) {
                    case DO_MAKE:
                        status = make();
                        break;
                    case DO_SIGN:
                        status = sign();
                        break;
                    case DO_INFO:
                        inform();
                        break;
                    case DO_PIN:
                        status = doPin();
                        break;
                    case DO_RESET:
                        status = reset();
                        break;
                    default:
                        status = signNext();
                        break;
                }
            }
            commanded = true;
            return ended(status);
        }

        private int ended(int status) {
            if (!store.on) {
                reply.clear();
                return SILENT;
            }
            answered++;
            if (status != DONE) {
                reply.clear();
                reply.push(status);
            }
            return status;
        }

        private int formFault(Bytes message, int first) {
            switch (first) {
                case NONE:
                    return WRONG_SIZE;
                case DO_INFO:
                case DO_RESET:
                case DO_NEXT:
                    return message.size() == 1 ? DONE : WRONG_SIZE;
                case DO_MAKE:
                case DO_SIGN:
                case DO_PIN:
                    if (!items.parse(message)) {
                        return NOT_CBOR;
                    }
                    return items.sortOf(ROOT) == MAP ? DONE : WRONG_SORT;
                default:
                    return UNKNOWN_COMMAND;
            }
        }

        private boolean takePress() {
            if (waiting <= 0) {
                return false;
            }
            waiting--;
            taken++;
            return true;
        }

        private int knownHash(int nameItem) {
            beginHash(nameItem);
            return rows.known();
        }

        private void beginHash(int nameItem) {
            rows.begin(HASH);
            rows.addBytes(items.source, items.contentOf(nameItem), items.valueOf(nameItem));
        }

        /** Which credential with a party has an id: its place, WRAPPED, or NONE when the id is not of this key. */
        private int whose(int id, int party) {
            int place = store.withId(id, party);
            if (place != NONE) {
                return place;
            }
            boolean wrapped = rows.part(id, 0) == WRAP && rows.part(id, 1) == store.master && rows.part(id, 2) == party;
            return wrapped ? WRAPPED : NONE;
        }

        /** The first id in a list, with type "public-key", that is of this key; 0 when there is none. */
        private int firstOwn(int list, int party) {
            int entry = list + 1;
            for (int i = 0; i < items.valueOf(list); i++) {
                int id = items.four(items.named(entry, "id"));
                if (items.isPublicKey(entry) && whose(id, party) != NONE) {
                    return id;
                }
                entry = items.nextOf(entry);
            }
            return 0;
        }

        private int pinTest(int proof, int number, int hash) {
            if (items.valueOf(proof) == 0) {
                if (!takePress()) {
                    return NO_PRESS;
                }
                return store.pin != 0 ? PIN_WRONG : PIN_NOT_SET;
            }
            if (number == NONE || items.valueOf(number) != 1) {
                return PROOF_WRONG;
            }
            if (store.pin == 0) {
                return PIN_NOT_SET;
            }
            rows.begin(MARK);
            rows.add(tokenSecret);
            rows.addFour(hash);
            return isKnownAs(proof) ? DONE : PROOF_WRONG;
        }

        /** Whether the bytes of an item are the term of the row that was built. */
        private boolean isKnownAs(int item) {
            int term = rows.known();
            return term != 0 && term == items.four(item);
        }

        // ---- 1 MAKE

        private int make() {
            int fault = makeFault();
            if (fault != DONE) {
                return fault;
            }
            int hash = items.four(items.member(ROOT, 1));
            int party = knownHash(items.named(items.member(ROOT, 2), "id"));
            int options = items.member(ROOT, 7);
            int proof = items.member(ROOT, 8);
            int flags = PRESSED | HAS_ID;
            if (firstOwn(items.member(ROOT, 5), party) != 0) {
                return takePress() ? EXCLUDED : NO_PRESS;
            }
            if (!hasAlgorithm(items.member(ROOT, 4))) {
                return NO_ALGORITHM;
            }
            if (items.isTrue(items.named(options, "uv"))) {
                return NO_SUCH_OPTION;
            }
            if (proof == NONE && store.pin != 0) {
                return PIN_WANTED;
            }
            if (proof != NONE) {
                int status = pinTest(proof, items.member(ROOT, 9), hash);
                if (status != DONE) {
                    return status;
                }
                flags |= PIN_PASSED;
            }
            if (!takePress()) {
                return NO_PRESS;
            }
            int user = items.named(items.member(ROOT, 3), "id");
            boolean isStored = items.isTrue(items.named(options, "rk"));
            if (isStored && !store.hasRoom(party, items.low(user), items.valueOf(user))) {
                return NO_ROOM;
            }
            if (isStored ? bringStored(user) : bringWrapped()) {
                tellMade(store.coming, flags, isStored ? 0 : store.count, hash);
            }
            return DONE;
        }

        private int makeFault() {
            int hash = items.member(ROOT, 1);
            int party = items.member(ROOT, 2);
            int user = items.member(ROOT, 3);
            int algorithms = items.member(ROOT, 4);
            int excluded = items.member(ROOT, 5);
            int name = items.named(party, "id");
            int userId = items.named(user, "id");
            boolean fits = items.fits(hash, BYTES) && items.fits(party, MAP) && items.fits(name, TEXT)
                && items.fits(user, MAP) && items.fits(userId, BYTES)
                && items.listFits(algorithms, "alg", ANY_NUMBER) && items.listFits(excluded, "id", BYTES)
                && optionsFit(items.member(ROOT, 7), "rk")
                && items.fits(items.member(ROOT, 8), BYTES) && items.fits(items.member(ROOT, 9), NUMBER);
            if (!fits) {
                return WRONG_SORT;
            }
            if (hash == NONE || name == NONE || userId == NONE || algorithms == NONE) {
                return MISSING;
            }
            if (!items.listIsWhole(algorithms, "alg") || !items.listIsWhole(excluded, "id")) {
                return MISSING;
            }
            boolean isRight = items.isLong(hash, 4, 4) && items.isLong(name, 1, MOST_NAME) && items.isLong(userId, 1, MOST_USER);
            return isRight ? DONE : WRONG_LENGTH;
        }

        private boolean optionsFit(int options, String name) {
            return items.fits(options, MAP) && items.fits(items.named(options, name), SIMPLE)
                && items.fits(items.named(options, "uv"), SIMPLE);
        }

        private boolean hasAlgorithm(int list) {
            int entry = list + 1;
            for (int i = 0; i < items.valueOf(list); i++) {
                int algorithm = items.named(entry, "alg");
                boolean isIt = items.sortOf(algorithm) == NEGATIVE && items.valueOf(algorithm) == MINUS_SEVEN;
                if (isIt && items.isPublicKey(entry)) {
                    return true;
                }
                entry = items.nextOf(entry);
            }
            return false;
        }

        private boolean bringWrapped() {
            Credential c = store.coming;
            c.secret = rows.newSecret();
            beginHash(items.named(items.member(ROOT, 2), "id"));
            c.party = rows.made();
            rows.begin(WRAP);
            rows.add(store.master);
            rows.add(c.party);
            rows.add(c.secret);
            c.id = rows.made();
            return true;
        }

        private boolean bringStored(int user) {
            Credential c = store.coming;
            c.secret = rows.newSecret();
            beginHash(items.named(items.member(ROOT, 2), "id"));
            c.party = rows.made();
            c.id = rows.freshTerm();
            c.user = items.low(user);
            c.width = items.valueOf(user);
            return store.write(Store.IS_CREDENTIAL, 0, 0, c);
        }

        private void beginData(int party, int flags, int count) {
            data.clear();
            data.pushLow(party, 4);
            data.push(flags);
            data.pushLow(count, 4);
        }

        private int signature(int secret, int hash) {
            rows.begin(SIGN);
            rows.add(secret);
            rows.addBytes(data, 0, data.size());
            rows.addFour(hash);
            return rows.made();
        }

        private void tellMade(Credential c, int flags, int count, int hash) {
            beginData(c.party, flags, count);
            data.pushLow(c.id, 4);
            data.pushLow(rows.publicOf(c.secret), 4);
            reply.head(MAP, 3);
            reply.push(1);
            reply.text("packed");
            reply.push(2);
            reply.head(BYTES, data.size());
            reply.pushPart(data, 0, data.size());
            reply.push(3);
            reply.head(MAP, 2);
            reply.text("alg");
            reply.head(NEGATIVE, MINUS_SEVEN);
            reply.text("sig");
            reply.term(signature(c.secret, hash));
        }

        // ---- 2 SIGN and 8 NEXT

        private int sign() {
            int fault = signFault();
            if (fault != DONE) {
                return fault;
            }
            int hash = items.four(items.member(ROOT, 2));
            int options = items.member(ROOT, 5);
            int proof = items.member(ROOT, 6);
            int flags = 0;
            if (items.isTrue(items.named(options, "uv"))) {
                return NO_SUCH_OPTION;
            }
            if (proof != NONE) {
                int status = pinTest(proof, items.member(ROOT, 7), hash);
                if (status != DONE) {
                    return status;
                }
                flags |= PIN_PASSED;
            }
            int list = items.member(ROOT, 3);
            int party = knownHash(items.member(ROOT, 1));
            boolean isListed = items.valueOf(list) > 0;
            int id = isListed ? firstOwn(list, party) : 0;
            int place = isListed ? whose(id, party) : store.lastBefore(store.held, party);
            if (place == NONE) {
                return NO_CREDENTIAL;
            }
            if (!items.isFalse(items.named(options, "up"))) {
                if (!takePress()) {
                    return NO_PRESS;
                }
                flags |= PRESSED;
            }
            if (!isListed) {
                listPlace = place;
                listParty = party;
                listHash = hash;
                listFlags = flags;
            }
            signWith(place, id, party, hash, flags, isListed ? 0 : store.countOfParty(party));
            return DONE;
        }

        private int signFault() {
            int name = items.member(ROOT, 1);
            int hash = items.member(ROOT, 2);
            int list = items.member(ROOT, 3);
            boolean fits = items.fits(name, TEXT) && items.fits(hash, BYTES) && items.listFits(list, "id", BYTES)
                && optionsFit(items.member(ROOT, 5), "up")
                && items.fits(items.member(ROOT, 6), BYTES) && items.fits(items.member(ROOT, 7), NUMBER);
            if (!fits) {
                return WRONG_SORT;
            }
            if (name == NONE || hash == NONE || !items.listIsWhole(list, "id")) {
                return MISSING;
            }
            return items.isLong(name, 1, MOST_NAME) && items.isLong(hash, 4, 4) ? DONE : WRONG_LENGTH;
        }

        private int signNext() {
            int place = store.lastBefore(listPlace, listParty);
            if (place == NONE) {
                return NOT_NOW;
            }
            listPlace = place;
            signWith(place, 0, listParty, listHash, listFlags, 1);
            return DONE;
        }

        /** Signs with a credential, or for WRAPPED with an id; the user is told unless many is 0, many if above 1. */
        private void signWith(int place, int id, int party, int hash, int flags, int many) {
            Credential c = store.standing(place);
            int count = (c == null ? store.count : c.count) + 1;
            if (!store.write(Store.IS_COUNT, c == null ? 0 : c.id, count, null)) {
                return;
            }
            beginData(party, flags, count);
            reply.head(MAP, many == 0 ? 3 : many == 1 ? 4 : 5);
            reply.push(1);
            reply.head(MAP, 2);
            reply.text("id");
            reply.term(c == null ? id : c.id);
            reply.text("type");
            reply.text("public-key");
            reply.push(2);
            reply.head(BYTES, data.size());
            reply.pushPart(data, 0, data.size());
            reply.push(3);
            reply.term(signature(c == null ? rows.part(id, 3) : c.secret, hash));
            if (many > 0 && c != null) {
                reply.push(4);
                reply.head(MAP, 1);
                reply.text("id");
                reply.head(BYTES, c.width);
                reply.pushLow(c.user, c.width);
            }
            if (many > 1) {
                reply.push(5);
                reply.head(NUMBER, many);
            }
        }

        // ---- 4 INFO and 7 RESET

        private void inform() {
            reply.head(MAP, 5);
            reply.push(1);
            reply.head(ARRAY, 1);
            reply.text("FIDO_2_0");
            reply.push(3);
            reply.head(BYTES, 2);
            reply.pushLow(0, 2);
            reply.push(4);
            reply.head(MAP, 3);
            reply.text("rk");
            reply.head(SIMPLE, TRUE);
            reply.text("up");
            reply.head(SIMPLE, TRUE);
            reply.text("clientPin");
            reply.head(SIMPLE, store.pin != 0 ? TRUE : FALSE);
            reply.push(5);
            reply.head(NUMBER, MOST_TAPE);
            reply.push(6);
            reply.head(ARRAY, 1);
            reply.push(1);
        }

        private int reset() {
            if (commanded) {
                return NOT_NOW;
            }
            if (!takePress()) {
                return NO_PRESS;
            }
            if (store.reset(rows.freshTerm())) {
                renew();
            }
            return DONE;
        }

        // ---- 6 PIN

        private int doPin() {
            int step = items.valueOf(items.member(ROOT, 2));
            int fault = pinFault(step);
            if (fault != DONE) {
                return fault;
            }
            if (step == ASK_TRIES) {
                reply.head(MAP, 1);
                reply.push(3);
                reply.head(NUMBER, store.tries);
                return DONE;
            }
            if (step == ASK_PUBLIC) {
                tellTerm(1, rows.publicOf(agreeSecret));
                return DONE;
            }
            rows.beginAgreed(agreeSecret, rows.secretOf(items.four(items.member(ROOT, 3))));
            int shared = rows.known();
            int status = step == SET_PIN ? settingFault() : tryingFault();
            if (status != DONE) {
                return status;
            }
            if (step != ASK_TOKEN && !isProved(shared, step == CHANGE_PIN)) {
                return PROOF_WRONG;
            }
            if (step != SET_PIN) {
                status = tryPin(shared);
                if (status != DONE || !store.on) {
                    return status;
                }
            }
            if (step != ASK_TOKEN) {
                return newPin(shared);
            }
            rows.begin(SENT);
            rows.add(shared);
            rows.add(tokenSecret);
            tellTerm(2, rows.made());
            return DONE;
        }

        private int pinFault(int step) {
            int version = items.member(ROOT, 1);
            boolean fits = items.fits(version, NUMBER) && items.fits(items.member(ROOT, 2), NUMBER);
            boolean isThere = version != NONE && items.member(ROOT, 2) != NONE;
            for (int i = 3; i <= 6; i++) {
                fits = fits && items.fits(items.member(ROOT, i), BYTES);
            }
            if (!fits) {
                return WRONG_SORT;
            }
            if (!isThere) {
                return MISSING;
            }
            if (items.valueOf(version) != 1 || step < ASK_TRIES || step > ASK_TOKEN) {
                return WRONG_LENGTH;
            }
            if (step < SET_PIN) {
                return DONE;
            }
            for (int i = 3; i <= 6; i++) {
                if (isWanted(i, step) && items.member(ROOT, i) == NONE) {
                    return MISSING;
                }
            }
            return rows.secretOf(items.four(items.member(ROOT, 3))) == 0 ? WRONG_LENGTH : DONE;
        }

        private boolean isWanted(int member, int step) {
            switch (member) {
                case 3:
                    return true;
                case 6:
                    return step != SET_PIN;
                default:
                    return step != ASK_TOKEN;
            }
        }

        private void tellTerm(int member, int term) {
            reply.head(MAP, 1);
            reply.push(member);
            reply.term(term);
        }

        private int settingFault() {
            return store.pin != 0 ? PROOF_WRONG : DONE;
        }

        private int tryingFault() {
            if (store.pin == 0) {
                return PIN_NOT_SET;
            }
            if (store.tries == 0) {
                return PIN_BLOCKED;
            }
            return wrong >= MOST_WRONG_SINCE_POWER ? PIN_BLOCKED_TILL_POWER : DONE;
        }

        /** Whether member 4 is the MAC of 5, and of 6 behind it if that counts too. */
        private boolean isProved(int shared, boolean withSix) {
            rows.begin(MAC);
            rows.add(shared);
            for (int i = 5; i <= (withSix ? 6 : 5); i++) {
                int member = items.member(ROOT, i);
                rows.addBytes(items.source, items.contentOf(member), items.valueOf(member));
            }
            return isKnownAs(items.member(ROOT, 4));
        }

        private int tryPin(int shared) {
            if (!store.write(Store.IS_TRIES, store.tries - 1, 0, null)) {
                return DONE;
            }
            rows.begin(ENC);
            rows.add(shared);
            rows.addFour(store.pin);
            if (isKnownAs(items.member(ROOT, 6))) {
                store.write(Store.IS_TRIES, Store.MOST_TRIES, 0, null);
                wrong = 0;
                return DONE;
            }
            agreeSecret = rows.newSecret();
            wrong++;
            if (store.tries == 0) {
                return PIN_BLOCKED;
            }
            return wrong >= MOST_WRONG_SINCE_POWER ? PIN_BLOCKED_TILL_POWER : PIN_WRONG;
        }

        private int newPin(int shared) {
            int secretPin = items.four(items.member(ROOT, 5));
            int n = rows.width(secretPin) - 2;
            boolean isOurs = shared != 0 && rows.part(secretPin, 0) == ENC && rows.part(secretPin, 1) == shared;
            if (!isOurs || n < LEAST_PIN || n > MOST_PIN) {
                return PIN_REFUSED;
            }
            rows.begin(HASH);
            rows.addPartsOf(secretPin, 2);
            store.write(Store.IS_PIN, rows.made(), 0, null);
            return DONE;
        }
    }

    /** What a hand has: 0 stands for none of a secret, a key AGREED, a token. */
    private static final class Hand {
        private final Bytes pin;
        private final Bytes page;
        private int secret;
        private int agreed;
        private int token;

        Hand() {
            pin = new Bytes(MOST_PIN);
            page = new Bytes(MOST_PAGE);
        }

        int sortOfSeal(int what) {
            switch (what) {
                case 1:
                    return ENC;
                case 2:
                    return MAC;
                case 3:
                    return MARK;
                case 4:
                    return SIGN;
                default:
                    return HASH;
            }
        }

        /** The second number of the row of a seal; 0 when the hand has it not. */
        int sealsWith(int what) {
            switch (what) {
                case 1:
                case 2:
                    return agreed;
                case 3:
                    return token;
                case 4:
                    return secret;
                default:
                    return 0;
            }
        }
    }

    /** An offer of a party. */
    private static final class Offer {
        private int challenge;
        private long user;
        private int width;
        private int kind;
        private boolean wantsPin;
    }

    /** An account at a party. */
    private static final class Account {
        private int id;
        private int publicTerm;
        private int count;
        private int logins;
        private long user;
        private int width;

        boolean isOf(long name, int bytes) {
            return user == name && width == bytes;
        }

        int tells(int what) {
            switch (what) {
                case 0:
                    return id;
                case 1:
                    return publicTerm;
                case 2:
                    return count;
                case 3:
                    return logins;
                case 4:
                    return width;
                default:
                    return what < 5 ? NONE : byteOf(user, width, what - 5);
            }
        }
    }

    /** A party: it makes offers and judges responses. */
    private static final class Party {
        private static final int NOT_A_RESPONSE = 1;
        private static final int NO_OFFER = 2;
        private static final int OTHER_ORIGIN = 3;
        private static final int DATA_SIZE = 4;
        private static final int OTHER_NAME = 5;
        private static final int FLAGS_MISSING = 6;
        private static final int NO_PIN = 7;
        private static final int NOT_SIGNED = 8;
        private static final int ID_TAKEN = 9;
        private static final int FULL = 10;
        private static final int NO_ACCOUNT = 11;
        private static final int COUNT_LOW = 12;

        private final Bytes origin;
        private final Bytes name;
        private final Offer[] offers;
        private final Account[] accounts;
        private int offerCount;
        private int accountCount;
        private int took;
        private int others;

        Party() {
            origin = new Bytes(MOST_PAGE);
            name = new Bytes(MOST_NAME);
            offers = new Offer[MOST_OFFERS];
            for (int i = 0; i < offers.length; i++) {
                offers[i] = new Offer();
            }
            accounts = new Account[MOST_ACCOUNTS];
            for (int i = 0; i < accounts.length; i++) {
                accounts[i] = new Account();
            }
        }

        Account accountAt(int i) {
            return i < 0 || i >= accountCount || i >= accounts.length ? null : accounts[i];
        }

        int accountsOf(long user, int width) {
            int many = 0;
            for (int i = 0; i < accountCount; i++) {
                Account a = accountAt(i);
                many += a != null && a.isOf(user, width) ? 1 : 0;
            }
            return many;
        }

        int tells(int what) {
            switch (what) {
                case 0:
                    return accountCount;
                case 1:
                    return offerCount;
                case 2:
                    return took;
                case 3:
                    return others;
                default:
                    return NONE;
            }
        }

        /** An offer behind the others, to be filled in; null when there are 4. */
        Offer freeOffer() {
            if (offerCount < 0 || offerCount >= offers.length) {
                return null;
            }
            offerCount++;
            return offers[offerCount - 1];
        }

        /** The challenge of the latest offer that stands; 0 when there is none. */
        int latestChallenge() {
            int last = offerCount - 1;
            return last < 0 || last >= offers.length || offers[last] == null ? 0 : offers[last].challenge;
        }

        int verdict(Terms rows, Bytes response, int size) {
            int why = whyNot(rows, response, size);
            if (why == 0) {
                took++;
            } else {
                others++;
            }
            return why;
        }

        private int whyNot(Terms rows, Bytes response, int size) {
            if (!isResponse(response, size)) {
                return NOT_A_RESPONSE;
            }
            Offer met = takeOffer(response.four(1), response.item(0));
            if (met == null) {
                return NO_OFFER;
            }
            int n = response.item(5);
            if (n != origin.size() || !response.matches(6, origin, 0, n)) {
                return OTHER_ORIGIN;
            }
            return met.kind == OF_CREATE ? whyNoAccount(rows, response, met) : whyNoLogin(rows, response, met);
        }

        private static boolean isResponse(Bytes response, int size) {
            int kind = response.item(0);
            if (size < 6 || (kind != OF_CREATE && kind != OF_GET)) {
                return false;
            }
            int n = response.item(5);
            return size >= 15 + n && size == 15 + n + response.item(10 + n);
        }

        /** Takes away the offer with a challenge if it is of that kind; null when there is none. */
        private Offer takeOffer(int challenge, int kind) {
            for (int i = 0; i < offerCount && i < offers.length; i++) {
                Offer met = offers[i];
                if (met != null && met.challenge == challenge && met.kind == kind) {
                    removeOffer(i);
                    return met;
                }
            }
            return null;
        }

        /** Those behind it go forward; the row that it leaves is used again for a later offer. */
        private void removeOffer(int place) {
            int last = Math.min(offerCount, offers.length) - 1;
            if (place < 0 || place > last) {
                return;
            }
            Offer gone = offers[place];
            for (int j = place; j < last; j++) {
                offers[j] = offers[j + 1];
            }
            offers[last] = gone;
            offerCount = last;
        }

        private int whyNoAccount(Terms rows, Bytes response, Offer met) {
            int idAt = 6 + origin.size();
            int at = idAt + 5;
            if (response.item(idAt + 4) != DATA_OF_CREATE) {
                return DATA_SIZE;
            }
            int why = dataFault(rows, response, at, PRESSED | HAS_ID, met.wantsPin);
            if (why != 0) {
                return why;
            }
            int id = response.four(idAt);
            int secret = rows.secretOf(response.four(at + 13));
            if (secret == 0 || response.four(at + 9) != id || !isSigned(rows, response, at, secret, DATA_OF_CREATE)) {
                return NOT_SIGNED;
            }
            if (accountWith(id) != null) {
                return ID_TAKEN;
            }
            if (accountCount >= accounts.length) {
                return FULL;
            }
            accountCount++;
            Account a = accountAt(accountCount - 1);
            if (a != null) {
                a.id = id;
                a.publicTerm = response.four(at + 13);
                a.count = response.four(at + 5);
                a.logins = 0;
                a.user = met.user;
                a.width = met.width;
            }
            return 0;
        }

        private int whyNoLogin(Terms rows, Bytes response, Offer met) {
            int idAt = 6 + origin.size();
            int at = idAt + 5;
            if (response.item(idAt + 4) != DATA_OF_GET) {
                return DATA_SIZE;
            }
            int why = dataFault(rows, response, at, PRESSED, met.wantsPin);
            if (why != 0) {
                return why;
            }
            Account a = accountWith(response.four(idAt));
            if (a == null || !a.isOf(met.user, met.width)) {
                return NO_ACCOUNT;
            }
            if (!isSigned(rows, response, at, rows.secretOf(a.publicTerm), DATA_OF_GET)) {
                return NOT_SIGNED;
            }
            long count = response.low(at + 5, 4);
            long had = a.count & 4294967295L;
            if (count <= had && (count != 0 || had != 0)) {
                return COUNT_LOW;
            }
            a.count = (int) count;
            a.logins++;
            return 0;
        }

        private Account accountWith(int id) {
            for (int i = 0; i < accountCount; i++) {
                Account a = accountAt(i);
                if (a != null && a.id == id) {
                    return a;
                }
            }
            return null;
        }

        private int dataFault(Terms rows, Bytes response, int at, int bits, boolean wantsPin) {
            rows.begin(HASH);
            rows.addBytes(name, 0, name.size());
            int hash = rows.known();
            if (hash == 0 || response.four(at) != hash) {
                return OTHER_NAME;
            }
            int flags = response.item(at + 4);
            if ((flags & bits) != bits) {
                return FLAGS_MISSING;
            }
            return wantsPin && (flags & PIN_PASSED) == 0 ? NO_PIN : 0;
        }

        /** Whether the signature is SIGN by a secret of DATA and the HASH of the client data. */
        private boolean isSigned(Terms rows, Bytes response, int at, int secret, int size) {
            rows.begin(HASH);
            rows.addBytes(response, 0, 5);
            rows.addBytes(origin, 0, origin.size());
            int hash = rows.known();
            if (hash == 0) {
                return false;
            }
            rows.begin(SIGN);
            rows.add(secret);
            rows.addBytes(response, at, size);
            rows.addFour(hash);
            int term = rows.known();
            return term != 0 && term == response.four(at + size);
        }
    }
}
