import java.lang.reflect.InvocationTargetException;
import java.lang.reflect.Method;
import java.util.ArrayList;
import java.util.Arrays;
import java.util.Comparator;
import java.util.HashMap;
import java.util.List;
import java.util.Map;
import java.util.Random;

/** All promises: runs of calls by dice, each answered by the class as by Model, which tells the document a second time. */
public final class ModelTest {

    private static final int MOST_CALLS = 512;
    private static final int RUNS = 1500;
    // A run that differs is told with all its calls: a few are enough.
    private static final int MOST_DIFFERING = 3;
    private static final String[] NAMES = {"b.c", "a.b.c", "c", "example", "n".repeat(24)};
    private static final String[] PAGES = {"b.c", "a.b.c", "x.a.b.c", "ab.c", "c", "my.example", "example", "n".repeat(24), "",
        "p".repeat(15) + "." + "n".repeat(24)};
    private static final String[] PINS = {"1234", "4321", "123456789012", "123", ""};
    // Bytes above the width do not count.
    private static final long[] USERS = {7, 0x3031, -1, 0, 0x0102030405060708L, -1, 0x0807060504030201L};
    private static final int[] WIDTHS = {1, 2, 8, 1, 8, 3, 7};
    private static final int[] EDGES = {Integer.MIN_VALUE, -3, -2, -1, 0, 1, 2, 3, 4, 8, 9, 12, 13, 24, 25, 40, 41, 255, 256, 400, 401,
        2000, 2001, Integer.MAX_VALUE};
    private static final Map<String, Method> REAL = methods(PasskeyHouse.class);
    private static final Map<String, Method> MODEL = methods(Model.class);

    private final Random dice;
    private final int seed;
    private final PasskeyHouse house = new PasskeyHouse();
    private final Model model = new Model();
    private final List<String> calls = new ArrayList<>();
    private final List<List<Integer>> kept = new ArrayList<>();
    private boolean differs = false;

    private ModelTest(int seed) {
        this.seed = seed;
        dice = new Random(seed);
    }

    public static void main(String[] args) {
        int first = args.length > 0 ? Integer.parseInt(args[0]) : 0;
        int many = args.length > 1 ? Integer.parseInt(args[1]) : RUNS;
        int[] seen = new int[256];
        int differing = 0;
        for (int seed = first; seed < first + many && differing < MOST_DIFFERING; seed++) {
            differing += new ModelTest(seed).run(seen) ? 0 : 1;
        }
        for (int status : new int[] {0, 1, 2, 3, 17, 18, 20, 25, 38, 39, 40, 43, 46, 48, 49, 50, 51, 52, 53, 54, 55}) {
            Bench.holds("some message is answered by " + status, seen[status] > 0);
        }
        for (int why = 0; why <= 12; why++) {
            Bench.holds("some response is judged " + why, seen[100 + why] > 0);
        }
        Bench.end();
    }

    private static Map<String, Method> methods(Class<?> of) {
        Map<String, Method> all = new HashMap<>();
        for (Method m : of.getDeclaredMethods()) {
            boolean isCall = Arrays.stream(PasskeyHouse.class.getMethods()).anyMatch(f -> f.getDeclaringClass() == PasskeyHouse.class
                && f.getName().equals(m.getName()) && Arrays.equals(f.getParameterTypes(), m.getParameterTypes()));
            if (isCall) {
                m.setAccessible(true);
                all.put(m.getName(), m);
            }
        }
        return all;
    }

    // ---- calls

    /** Both are called, and must answer alike: what they answer (0 when no more calls are promised). */
    private int call(String name, Object... args) {
        if (calls.size() >= MOST_CALLS || differs) {
            return 0;
        }
        try {
            Object want = MODEL.get(name).invoke(model, args);
            Object got = REAL.get(name).invoke(house, args);
            calls.add(name + Arrays.toString(args) + " = " + want);
            if (!want.equals(got)) {
                differs = true;
                Bench.holds("seed " + seed + ", " + String.join("; ", calls) + "; but it answered " + got, false);
            }
            return want instanceof Boolean ? ((Boolean) want ? 1 : 0) : (Integer) want;
        } catch (InvocationTargetException | IllegalAccessException e) {
            differs = true;
            Bench.holds("seed " + seed + ", " + name + Arrays.toString(args) + " threw " + e.getCause(), false);
            return 0;
        }
    }

    /** Whether all answers of a run were alike; what was answered is counted. */
    private boolean run(int[] seen) {
        int[] weights = new int[28];
        for (int i = 0; i < weights.length; i++) {
            weights[i] = dice.nextInt(3) == 0 ? 0 : 1 + dice.nextInt(8);
        }
        if (dice.nextInt(20) != 0) {
            furnish();
        }
        int acts = MOST_CALLS - dice.nextInt(MOST_CALLS / 2);
        for (int i = 0; i < 2000 && calls.size() < acts && !differs; i++) {
            act(pick(weights), seen);
        }
        for (int i = 0; i < 2000 && calls.size() < MOST_CALLS && !differs; i++) {
            look();
        }
        return !differs;
    }

    private int pick(int[] weights) {
        int at = dice.nextInt(Math.max(1, Arrays.stream(weights).sum()));
        for (int i = 0; i < weights.length; i++) {
            at -= weights[i];
            if (at < 0) {
                return i;
            }
        }
        return 0;
    }

    private void furnish() {
        call("key");
        if (dice.nextBoolean()) {
            call("key");
        }
        for (int i = 0; i < 1 + dice.nextInt(2); i++) {
            newParty();
        }
        for (int i = 0; i < 2; i++) {
            lay(Model.letters(PAGES[dice.nextInt(3)]));
            call("page", i, model.tape.size());
            lay(Model.letters(PINS[dice.nextInt(2)]));
            call("pin", i, model.tape.size());
        }
    }

    private void act(int what, int[] seen) {
        switch (what) {
            case 0 -> power();
            case 1 -> presses();
            case 2 -> call("cut", key(), dice.nextInt(3) == 0 ? -1 : dice.nextInt(dice.nextBoolean() ? 30 : 200));
            case 3 -> typing();
            case 4 -> newParty();
            case 5 -> call("offer", party(), user(dice.nextInt(7)), width(dice.nextInt(7)), dice.nextBoolean(), dice.nextInt(4) == 0);
            case 6, 7 -> creating(seen);
            case 8, 9 -> getting(seen);
            case 10 -> pins(seen);
            case 11 -> sent(key(), makeMessage(), seen);
            case 12 -> sent(key(), signMessage(), seen);
            case 13 -> sent(key(), pinMessage(), seen);
            case 14 -> again(seen);
            case 15 -> plain(seen);
            case 16 -> handWork();
            case 17 -> judging(seen);
            case 18 -> any();
            case 19 -> filling(seen);
            case 20 -> joining(seen);
            case 21 -> guessing(seen);
            case 22 -> counting(seen);
            case 23 -> stuffing();
            case 24, 25 -> withPin(seen);
            case 26 -> several(seen);
            default -> look();
        }
    }

    private int key() {
        return dice.nextInt(12) == 0 ? dice.nextInt(5) - 1 : dice.nextInt(Math.max(1, model.chips.size()));
    }

    private int hand() {
        return dice.nextInt(12) == 0 ? dice.nextInt(6) - 1 : dice.nextInt(2);
    }

    private int party() {
        return dice.nextInt(12) == 0 ? dice.nextInt(6) - 1 : dice.nextInt(Math.max(1, model.sites.size()));
    }

    private long user(int i) {
        return USERS[i];
    }

    private int width(int i) {
        return WIDTHS[i];
    }

    private <T> T one(List<T> all) {
        return all.get(dice.nextInt(all.size()));
    }

    /** A term, most often one of some sort, if there is any. */
    private int term(int sort) {
        List<Integer> all = new ArrayList<>();
        for (int t = 1; t <= model.terms(); t++) {
            if (model.sort(t) == sort) {
                all.add(t);
            }
        }
        return all.isEmpty() || dice.nextInt(10) == 0 ? dice.nextInt(model.terms() + 2) : dice.nextBoolean() ? one(all) : all.get(all.size() - 1);
    }

    private void lay(List<Integer> bytes) {
        call("wipe");
        for (int i = 0; i < bytes.size(); i += 8) {
            int n = Math.min(8, bytes.size() - i);
            long w = dice.nextLong();
            for (int j = 0; j < n; j++) {
                w = w << 8 | bytes.get(i + j);
            }
            call("feed", w, n);
        }
    }

    private void sent(int key, List<Integer> message, int[] seen) {
        lay(message);
        int n = call("command", key, -1);
        if (n > 0 && calls.size() < MOST_CALLS) {
            seen[call("answer", key, 0)]++;
            call("answer", key, 1 + dice.nextInt(n));
        }
        if (dice.nextInt(4) == 0) {
            call("take", key);
            call("at", dice.nextInt(Math.max(1, model.tape.size())));
        }
    }

    // ---- acts

    private void power() {
        int key = key();
        if (dice.nextBoolean()) {
            call("power", key, false);
        }
        call("power", key, dice.nextInt(4) != 0);
    }

    private void presses() {
        int key = key();
        for (int i = dice.nextInt(5); i >= 0; i--) {
            call("press", key);
        }
    }

    private void typing() {
        boolean page = dice.nextBoolean();
        lay(Model.letters(page ? PAGES[dice.nextInt(PAGES.length)] : PINS[dice.nextInt(PINS.length)]));
        call(page ? "page" : "pin", hand(), model.tape.size());
    }

    private void newParty() {
        String origin = PAGES[dice.nextInt(dice.nextBoolean() ? 2 : PAGES.length)];
        String name = dice.nextInt(3) == 0 ? origin : NAMES[dice.nextInt(NAMES.length)];
        lay(Model.letters(origin + name));
        call("party", origin.length(), name.length());
    }

    private String nameFor(int hand, int party) {
        List<Integer> name = party >= 0 && party < model.sites.size() ? model.sites.get(party).name : List.of();
        if (!name.isEmpty() && dice.nextInt(6) != 0) {
            StringBuilder all = new StringBuilder();
            name.forEach(c -> all.append((char) (int) c));
            return all.toString();
        }
        return NAMES[dice.nextInt(NAMES.length)];
    }

    /** 0, a challenge that stands, or some term. */
    private int challenge(int party) {
        List<Model.Ask> asks = party >= 0 && party < model.sites.size() ? model.sites.get(party).asks : List.of();
        int what = dice.nextInt(8);
        return what == 0 ? term(1) : what < 4 && !asks.isEmpty() ? one(asks).challenge() : 0;
    }

    private void creating(int[] seen) {
        int hand = hand();
        int key = key();
        int party = party();
        int u = dice.nextInt(USERS.length);
        if (dice.nextInt(4) != 0) {
            call("offer", party, user(u), width(u), false, dice.nextInt(4) == 0);
        }
        if (dice.nextInt(8) != 0) {
            call("press", key);
        }
        String name = nameFor(hand, party);
        lay(Model.letters(name));
        answered(call("create", hand, key, challenge(party), dice.nextInt(10) == 0 ? -1 : party, user(u), width(u),
            name.length(), dice.nextInt(dice.nextInt(8) == 0 ? 10 : 8)), seen);
        after(party, seen);
    }

    private void getting(int[] seen) {
        int hand = hand();
        int key = key();
        int party = party();
        int u = dice.nextInt(USERS.length);
        if (dice.nextInt(4) != 0) {
            call("offer", party, user(u), width(u), true, dice.nextInt(4) == 0);
        }
        if (dice.nextInt(4) != 0) {
            call("press", key);
        }
        String name = nameFor(hand, party);
        lay(Model.letters(name));
        int how = dice.nextInt(dice.nextInt(8) == 0 ? 18 : 16);
        int status = call("get", hand, key, challenge(party), dice.nextInt(10) == 0 ? -1 : party, user(u), width(u),
            name.length(), dice.nextBoolean() ? how & ~4 : how);
        answered(status, seen);
        after(party, seen);
        if (status == 0 && dice.nextInt(3) == 0) {
            lay(Model.letters(name));
            call("get", hand, key, 0, party, user(u), width(u), name.length(), 4);
            after(party, seen);
        }
    }

    /** What may be done with the response that may lie on the tape. */
    private void after(int party, int[] seen) {
        if (dice.nextInt(3) == 0 && !model.tape.isEmpty()) {
            kept.add(new ArrayList<>(model.tape));
        }
        if (dice.nextInt(4) == 0) {
            call("poke", dice.nextInt(Math.max(1, model.tape.size())), dice.nextInt(256));
        }
        if (dice.nextInt(5) != 0) {
            judged(dice.nextInt(8) == 0 ? party() : party, dice.nextInt(12) == 0 ? dice.nextInt(60) : -1, seen);
        }
    }

    private void judged(int party, int n, int[] seen) {
        int why = call("judge", party, n);
        if (why >= 0 && calls.size() < MOST_CALLS) {
            seen[100 + why]++;
        }
    }

    private void pins(int[] seen) {
        int hand = hand();
        int key = key();
        String typed = PINS[dice.nextInt(dice.nextBoolean() ? 1 : PINS.length)];
        if (dice.nextInt(3) == 0) {
            lay(Model.letters(typed));
            call("pin", hand, model.tape.size());
        }
        int what = dice.nextInt(5);
        int status = 0;
        if (what == 0) {
            status = call("setPin", hand, key);
        } else if (what == 1) {
            lay(Model.letters(PINS[dice.nextInt(PINS.length)]));
            status = call("changePin", hand, key, model.tape.size() - (dice.nextInt(8) == 0 ? 1 : 0));
        } else {
            status = call("unlock", hand, key);
        }
        answered(status, seen);
    }

    private void answered(int status, int[] seen) {
        if (status > 0) {
            seen[status]++;
        }
    }

    private void again(int[] seen) {
        int key = key();
        for (int i = dice.nextInt(25); i >= 0; i--) {
            int n = call("command", key, -1);
            if (n > 0 && calls.size() < MOST_CALLS && dice.nextInt(4) == 0) {
                seen[call("answer", key, 0)]++;
            }
            if (dice.nextInt(5) == 0) {
                call("press", key);
            }
            if (dice.nextInt(12) == 0) {
                call("cut", key, dice.nextInt(60));
            }
            if (dice.nextInt(12) == 0) {
                call("power", key, true);
            }
        }
    }

    private void plain(int[] seen) {
        int key = key();
        int[] all = {4, 7, 8, 8, 8, 0, 3, 255};
        if (dice.nextInt(3) == 0) {
            call("power", key, false);
            call("power", key, true);
        }
        if (dice.nextInt(3) == 0) {
            call("press", key);
        }
        List<Integer> message = Model.row(all[dice.nextInt(all.length)]);
        if (dice.nextInt(8) == 0) {
            message.add(dice.nextInt(256));
        }
        sent(key, dice.nextInt(12) == 0 ? List.of() : message, seen);
    }

    private void handWork() {
        int hand = hand();
        switch (dice.nextInt(7)) {
            case 0 -> call("own", hand);
            case 1 -> call("agree", hand, term(2));
            case 2 -> {
                lay(dice.nextBoolean() ? Model.four(term(7)) : Model.letters(PINS[dice.nextInt(PINS.length)]));
                call("seal", hand, dice.nextInt(6), dice.nextInt(4) == 0 ? dice.nextInt(6) : -1);
            }
            case 3 -> call("seal", hand, dice.nextInt(6), -1);
            case 4 -> call("open", hand, term(4));
            case 5 -> call("token", hand, term(9));
            default -> call("sort", term(1 + dice.nextInt(10)));
        }
    }

    /** Judges something kept, or something that a hand signs by itself. */
    private void judging(int[] seen) {
        int party = party();
        if (dice.nextBoolean() && !kept.isEmpty()) {
            lay(one(kept));
            judged(party, -1, seen);
            return;
        }
        if (party < 0 || party >= model.sites.size()) {
            return;
        }
        int u = dice.nextInt(USERS.length);
        boolean get = dice.nextBoolean();
        Model.Site site = model.sites.get(party);
        int challenge = call("offer", party, user(u), width(u), get, false);
        int own = call("own", 3);
        int hash = sealed(0, Model.row(get ? 2 : 1, Model.four(challenge), site.origin));
        int name = sealed(0, site.name);
        int id = site.members.isEmpty() || dice.nextBoolean() ? term(1) : one(site.members).id;
        List<Integer> data = Model.row(Model.four(name), dice.nextInt(4) == 0 ? dice.nextInt(256) : 69, Model.four(edge()));
        if (!get) {
            data = Model.row(data, Model.four(id), Model.four(own));
        }
        int signature = sealed(4, Model.row(data, Model.four(hash)));
        lay(Model.row(get ? 2 : 1, Model.four(challenge), site.origin.size(), site.origin, Model.four(id), data.size(), data,
            Model.four(signature)));
        judged(party, -1, seen);
        if (!get && dice.nextBoolean()) {
            comeIn(party, site, id, u, seen);
        }
    }

    /** A login by a hand that signs by itself, with a count of any sort. */
    private void comeIn(int party, Model.Site site, int id, int u, int[] seen) {
        int challenge = call("offer", party, user(u), width(u), true, false);
        int hash = sealed(0, Model.row(2, Model.four(challenge), site.origin));
        List<Integer> data = Model.row(Model.four(sealed(0, site.name)), 1, Model.four(edge()));
        int signature = sealed(4, Model.row(data, Model.four(hash)));
        lay(Model.row(2, Model.four(challenge), site.origin.size(), site.origin, Model.four(id), data.size(), data, Model.four(signature)));
        judged(party, -1, seen);
    }

    private int sealed(int what, List<Integer> bytes) {
        lay(bytes);
        return call("seal", 3, what, -1);
    }

    /** One message that makes a credential, sent again and again, with users and names that change by a byte. */
    private void filling(int[] seen) {
        int key = key();
        int u = dice.nextInt(USERS.length);
        List<Integer> before = Model.row(1, Model.head(5, 5), 1, Model.bytesItem(Model.four(1)), 2, Model.head(5, 1), text("id"), text("b.c"),
            3, Model.head(5, 1), text("id"), Model.head(2, width(u)));
        lay(Model.row(before, Model.big(user(u), width(u)), 4, Model.head(4, 1), Model.head(5, 2), text("alg"), Model.head(1, 6),
            text("type"), text("public-key"), 7, Model.head(5, 1), text("rk"), 0xf5));
        for (int i = dice.nextInt(10); i >= 0; i--) {
            call("press", key);
            told(key, call("command", key, -1), seen);
            call("poke", before.size(), dice.nextInt(8));
            if (dice.nextInt(8) == 0) {
                call("poke", before.size() - 6 - (i & 1), 97 + dice.nextInt(3));
            }
            hazard(key);
        }
    }

    /** A tape that is full, or nearly so. */
    private void stuffing() {
        if (dice.nextInt(4) != 0) {
            call("poke", dice.nextBoolean() ? edge() : dice.nextInt(Math.max(1, model.tape.size())), edge());
            return;
        }
        for (int i = model.tape.size(); i < 400; i += 8) {
            call("feed", dice.nextLong(), 8);
        }
        for (int i = 0; i < 4; i++) {
            call("feed", dice.nextLong(), dice.nextInt(11) - 1);
        }
        call("at", 399);
        call("at", 400);
        call("seal", hand(), dice.nextInt(5), -1);
        call("command", key(), dice.nextBoolean() ? -1 : edge());
    }

    /** A credential signs again and again without a press. */
    private void counting(int[] seen) {
        int key = key();
        lay(Model.row(2, Model.head(5, 3), 1, text("b.c"), 2, Model.bytesItem(Model.four(1)), 5, Model.head(5, 1), text("up"), 0xf4));
        int whole = model.tape.size();
        for (int i = dice.nextInt(40); i >= 0; i--) {
            told(key, call("command", key, whole), seen);
            for (int j = dice.nextInt(4); j > 0; j--) {
                call("poke", 0, 8);
                told(key, call("command", key, 1), seen);
                call("poke", 0, 2);
            }
            hazard(key);
        }
    }

    private void told(int key, int n, int[] seen) {
        if (n > 0 && dice.nextInt(3) == 0 && calls.size() < MOST_CALLS) {
            seen[call("answer", key, 0)]++;
            call("answer", key, dice.nextInt(n));
            call("answer", key, dice.nextInt(n));
        }
    }

    /** Power may be told to fail, or may come again. */
    private void hazard(int key) {
        if (dice.nextInt(8) == 0) {
            call("cut", key, dice.nextInt(dice.nextBoolean() ? 24 : 300));
        }
        if (dice.nextInt(6) == 0) {
            call("power", key, true);
        }
    }

    /** Users join a party, one behind the other, as they should. */
    private void joining(int[] seen) {
        int party = dice.nextInt(Math.max(1, model.sites.size()));
        int key = key();
        if (model.sites.isEmpty()) {
            return;
        }
        Model.Site site = model.sites.get(party);
        lay(site.origin);
        call("page", 0, site.origin.size());
        for (int i = 0; i < 9; i++) {
            int u = dice.nextInt(USERS.length);
            call("offer", party, user(u), width(u), false, dice.nextInt(8) == 0);
            call("press", key);
            lay(site.name);
            answered(call("create", 0, key, 0, party, user(u), width(u), site.name.size(), dice.nextBoolean() ? 4 : dice.nextInt(8)), seen);
            if (dice.nextInt(20) == 0) {
                call("feed", 0L, 1);
                call("poke", 10 + site.origin.size(), 18);
            }
            judged(party, -1, seen);
        }
    }

    private Model.Site someSite() {
        return model.sites.isEmpty() ? null : one(model.sites);
    }

    /** A hand stands on the page of a party, with a PIN at a key, and comes in with its token. */
    private void withPin(int[] seen) {
        Model.Site site = someSite();
        int hand = dice.nextInt(2);
        int key = key();
        if (site == null || dice.nextInt(3) == 0) {
            lay(Model.letters(PINS[dice.nextInt(2)]));
            call("pin", hand, model.tape.size());
            answered(call("setPin", hand, key), seen);
            answered(call("unlock", hand, key), seen);
            return;
        }
        int party = model.sites.indexOf(site);
        lay(site.origin);
        call("page", hand, site.origin.size());
        answered(call("unlock", hand, key), seen);
        for (int i = 0; i < 3; i++) {
            int u = dice.nextInt(3);
            boolean get = dice.nextBoolean();
            call("offer", party, user(u), width(u), get, dice.nextBoolean());
            call("press", key);
            lay(site.name);
            int how = dice.nextInt(4) == 0 ? dice.nextInt(8) : get ? 2 : 2 + dice.nextInt(2);
            answered(call(get ? "get" : "create", hand, key, challenge(party), party, user(u), width(u), site.name.size(), how), seen);
            after(party, seen);
        }
    }

    /** Several users of a party have credentials in one key; they are asked for one behind the other. */
    private void several(int[] seen) {
        Model.Site site = someSite();
        int key = key();
        if (site == null) {
            return;
        }
        int party = model.sites.indexOf(site);
        lay(site.origin);
        call("page", 1, site.origin.size());
        for (int u = 0; u < 3; u++) {
            call("offer", party, user(u), width(u), false, false);
            call("press", key);
            lay(site.name);
            answered(call("create", 1, key, 0, party, user(u), width(u), site.name.size(), 5), seen);
            after(party, seen);
        }
        int u = dice.nextInt(3);
        call("offer", party, user(u), width(u), true, false);
        call("press", key);
        for (int i = dice.nextInt(4); i >= 0; i--) {
            lay(site.name);
            answered(call("get", 1, key, 0, party, user(u), width(u), site.name.size(), i == 3 ? 0 : model.chips.isEmpty() ? 8 : how(key)), seen);
        }
        after(party, seen);
    }

    /** The next one if there is a list, else a list. */
    private int how(int key) {
        boolean isList = key >= 0 && key < model.chips.size() && model.chips.get(key).list != null;
        return isList ? 4 : 8;
    }

    /** Wrong PINs until no tries are left. */
    private void guessing(int[] seen) {
        int key = key();
        int hand = hand();
        lay(Model.letters(PINS[dice.nextInt(3)]));
        call("pin", hand, model.tape.size());
        for (int i = 0; i < 12; i++) {
            int status = call("unlock", hand, key);
            answered(status, seen);
            if (status == 52 || status == -3) {
                call("power", key, false);
                call("power", key, true);
            }
        }
    }

    private int edge() {
        return EDGES[dice.nextInt(EDGES.length)];
    }

    private void any() {
        List<String> names = new ArrayList<>(REAL.keySet());
        names.sort(Comparator.naturalOrder());
        String name = one(names);
        Class<?>[] types = REAL.get(name).getParameterTypes();
        Object[] args = new Object[types.length];
        for (int i = 0; i < args.length; i++) {
            int small = dice.nextInt(4);
            args[i] = types[i] == int.class ? (Object) (dice.nextInt(4) == 0 ? edge() : small)
                : types[i] == long.class ? (Object) dice.nextLong() : (Object) dice.nextBoolean();
        }
        call(name, args);
    }

    private void look() {
        int key = key();
        switch (dice.nextInt(8)) {
            case 0 -> call("told", key, dice.nextInt(14) - 1);
            case 1, 2 -> call("flash", key, dice.nextInt(4) == 0 ? dice.nextInt(514) - 1 : 256 * dice.nextInt(2) + dice.nextInt(80));
            case 3 -> call("credential", key, dice.nextInt(7), dice.nextInt(13) - 1);
            case 4 -> call("account", party(), dice.nextInt(9) - 1, dice.nextInt(14) - 1);
            case 5 -> call("terms");
            case 6 -> call("answer", key, dice.nextInt(60) - 1);
            default -> call("at", dice.nextInt(60) - 1);
        }
    }

    // ---- messages

    private List<Integer> text(String s) {
        return Model.textItem(s);
    }

    private List<Integer> flag() {
        return List.of(dice.nextBoolean() ? 0xf4 : 0xf5);
    }

    private List<Integer> hash() {
        return Model.bytesItem(Model.four(dice.nextBoolean() ? 1 : term(7)));
    }

    /** A map of parts (a key, then an item); now and then one is left out, strange, or one too many. */
    private List<Integer> map(Object... parts) {
        List<List<Integer>> all = new ArrayList<>();
        for (int i = 0; i < parts.length; i += 2) {
            if (parts[i + 1] != null && dice.nextInt(40) != 0) {
                List<Integer> name = parts[i] instanceof Integer ? Model.head(0, (Integer) parts[i]) : text((String) parts[i]);
                List<?> value = dice.nextInt(40) == 0 ? strange(2) : (List<?>) parts[i + 1];
                all.add(Model.row(name, value));
            }
        }
        if (dice.nextInt(25) == 0) {
            List<Integer> more = Model.row(dice.nextBoolean() ? Model.head(dice.nextInt(2), dice.nextInt(300)) : text("x"), strange(1));
            all.add(dice.nextInt(all.size() + 1), more);
        }
        List<Integer> out = Model.head(5, all.size());
        all.forEach(out::addAll);
        return out;
    }

    private List<Integer> array(List<List<Integer>> all) {
        List<Integer> out = Model.head(4, all.size());
        all.forEach(out::addAll);
        return out;
    }

    /** An item of any sort. */
    private List<Integer> strange(int depth) {
        int n = edge() & 65535;
        switch (dice.nextInt(depth > 0 ? 8 : 6)) {
            case 0:
                return Model.head(dice.nextInt(2), n);
            case 5:
                return oddHead();
            case 1:
                return Model.bytesItem(Model.big(dice.nextLong(), dice.nextInt(9)));
            case 2:
                return text("n".repeat(dice.nextInt(30)));
            case 3:
                return flag();
            case 4:
                return Model.row(dice.nextInt(256));
            case 6:
                return array(List.of(strange(depth - 1)));
            default:
                return Model.row(Model.head(5, 1), text("id"), strange(depth - 1));
        }
    }

    /** A number told by 1, 2 or 4 bytes, though fewer might do. */
    private List<Integer> oddHead() {
        long[] all = {0, 23, 24, 25, 255, 256, 65535, 65536, 2147483647L, 2147483648L, 4294967295L};
        int x = 24 + dice.nextInt(4);
        return Model.row(32 * dice.nextInt(2) + x, Model.big(all[dice.nextInt(all.length)], 1 << (x - 24)));
    }

    private List<Integer> entries() {
        List<List<Integer>> all = new ArrayList<>();
        for (int i = dice.nextInt(4); i > 0; i--) {
            List<Integer> id = Model.four(term(dice.nextBoolean() ? 1 : 8));
            if (dice.nextInt(8) == 0) {
                id.add(dice.nextInt(5), 0);
            }
            all.add(map("id", Model.bytesItem(id), "type", text(dice.nextInt(8) == 0 ? "public-kex" : "public-key")));
        }
        return array(all);
    }

    private List<Integer> some(int chance, List<Integer> item) {
        return dice.nextInt(100) < chance ? item : null;
    }

    private List<Integer> mark(List<Integer> hash) {
        int kind = dice.nextInt(4);
        if (kind == 0) {
            return Model.bytesItem(List.of());
        }
        int hand = dice.nextInt(2);
        if (kind < 3 && model.people.get(hand).token != 0) {
            lay(hash.subList(1, hash.size()));
            return Model.bytesItem(Model.four(call("seal", hand, 3, -1)));
        }
        return Model.bytesItem(Model.four(term(10)));
    }

    private List<Integer> garbled(List<Integer> message) {
        List<Integer> all = new ArrayList<>(message);
        int what = dice.nextInt(30);
        if (what == 0) {
            all.set(dice.nextInt(all.size()), dice.nextInt(256));
        } else if (what == 1) {
            all.remove(dice.nextInt(all.size()));
        } else if (what == 2) {
            all.add(dice.nextInt(all.size() + 1), dice.nextInt(256));
        }
        return all.size() > 400 ? all.subList(0, 400) : all;
    }

    private List<Integer> makeMessage() {
        List<Integer> hash = hash();
        int u = dice.nextInt(USERS.length);
        List<List<Integer>> algorithms = new ArrayList<>();
        for (int i = dice.nextInt(6) == 0 ? 2 : 1; i > 0; i--) {
            algorithms.add(map("alg", Model.head(1, dice.nextInt(10) == 0 ? 5 : 6), "type", text("public-key")));
        }
        String name = dice.nextInt(20) == 0 ? "n".repeat(dice.nextInt(27)) : NAMES[dice.nextInt(NAMES.length)];
        return garbled(Model.row(1, map(1, hash, 2, map("id", text(name)), 3, map("id", Model.bytesItem(Model.big(user(u), width(u)))),
            4, array(algorithms), 5, some(25, entries()), 7, some(70, map("rk", some(80, flag()), "uv", some(10, flag()))),
            8, some(35, mark(hash)), 9, some(50, Model.row(1)))));
    }

    private List<Integer> signMessage() {
        List<Integer> hash = hash();
        String name = dice.nextInt(20) == 0 ? "n".repeat(dice.nextInt(27)) : NAMES[dice.nextInt(NAMES.length)];
        return garbled(Model.row(2, map(1, text(name), 2, hash, 3, some(45, entries()),
            5, some(80, map("uv", some(5, flag()), "up", some(80, flag()))), 6, some(30, mark(hash)), 7, some(50, Model.row(1)))));
    }

    private List<Integer> bytesOf(int term) {
        return Model.bytesItem(dice.nextInt(15) == 0 ? Model.big(term, dice.nextInt(9)) : Model.four(term));
    }

    private List<Integer> pinMessage() {
        int step = dice.nextInt(10) == 0 ? dice.nextInt(7) : 1 + dice.nextInt(5);
        List<Integer> one = dice.nextInt(20) == 0 ? Model.head(0, edge() & 255) : Model.row(1);
        int hand = dice.nextInt(2);
        int key = Math.max(0, Math.min(model.chips.size() - 1, key()));
        if (step < 3 || model.chips.isEmpty()) {
            return garbled(Model.row(6, map(1, one, 2, Model.head(0, step), 3, some(10, strange(1)))));
        }
        if (dice.nextInt(4) != 0) {
            call("own", hand);
            lay(Model.row(6, Model.head(5, 2), 1, 1, 2, 2));
            call("command", key, -1);
            call("agree", hand, term(2));
        }
        int five = dice.nextInt(8) == 0 ? term(4) : sealedBy(hand, 1, Model.letters(PINS[dice.nextInt(PINS.length)]));
        int hash = sealedBy(hand, 0, Model.letters(PINS[dice.nextInt(dice.nextBoolean() ? 1 : PINS.length)]));
        int six = sealedBy(hand, 1, Model.four(hash));
        int mac = sealedBy(hand, 2, step == 3 ? Model.four(five) : Model.row(Model.four(five), Model.four(six)));
        int own = model.people.get(hand).secret == 0 ? term(2) : model.numberOf(2, model.people.get(hand).secret);
        return garbled(Model.row(6, map(1, one, 2, Model.head(0, step), 3, bytesOf(own), 4, bytesOf(mac), 5, bytesOf(five), 6, bytesOf(six))));
    }

    private int sealedBy(int hand, int what, List<Integer> bytes) {
        lay(bytes);
        return call("seal", hand, what, -1);
    }
}
