import java.util.ArrayList;
import java.util.List;
import java.util.function.Function;
import java.util.function.Supplier;

/**
 * Looks whether a refused call has changed anything: of two houses that were made by the same calls one is asked what it
 * refuses, and then both must answer all later calls alike. An object is good for 512 calls, so each look has two houses
 * of its own.
 */
final class Twins {

    private static final int MOST_TAPE = 400;
    private static final int AREA = 256;
    private static final int NAME = 4;

    private Twins() {
    }

    /** A call that answers a number. */
    interface Call {
        int on(PasskeyHouse x);
    }

    /** A call that answers whether. */
    interface Question {
        boolean on(PasskeyHouse x);
    }

    /** Each of these calls answers NONE, and nothing has changed by it. */
    static void refused(Supplier<PasskeyHouse> scene, String what, Call... calls) {
        answered(scene, what, PasskeyHouse.NONE, calls);
    }

    /** Each of these calls answers false, and nothing has changed by it. */
    static void denied(Supplier<PasskeyHouse> scene, String what, Question... questions) {
        Call[] calls = new Call[questions.length];
        for (int i = 0; i < calls.length; i++) {
            Question asked = questions[i];
            calls[i] = x -> asked.on(x) ? 1 : 0;
        }
        answered(scene, what, 0, calls);
    }

    /** Each of these calls answers this, and both houses answer all looks alike then. */
    static void answered(Supplier<PasskeyHouse> scene, String what, int want, Call... calls) {
        for (int i = 0; i < calls.length; i++) {
            Call call = calls[i];
            Bench.due(what + ", call " + (i + 1), call.on(scene.get()), want);
            Bench.holds(what + ", call " + (i + 1) + ": nothing has changed", areAlike(scene, () -> {
                PasskeyHouse x = scene.get();
                call.on(x);
                return x;
            }));
        }
    }

    static boolean areAlike(Supplier<PasskeyHouse> one, Supplier<PasskeyHouse> other) {
        for (Function<PasskeyHouse, String> look : looks()) {
            if (!look.apply(one.get()).equals(look.apply(other.get()))) {
                return false;
            }
        }
        return true;
    }

    private static List<Function<PasskeyHouse, String>> looks() {
        List<Function<PasskeyHouse, String>> all = new ArrayList<>();
        all.add(x -> tape(x, 0, MOST_TAPE / 2));
        all.add(x -> tape(x, MOST_TAPE / 2, MOST_TAPE + 1));
        all.add(Twins::answers);
        all.add(Twins::keys);
        for (int k = 0; k < 3; k++) {
            for (int area = 0; area < 2; area++) {
                int key = k;
                int from = area * AREA;
                all.add(x -> flash(x, key, from));
            }
        }
        all.add(Twins::accounts);
        all.add(Twins::seals);
        all.add(Twins::opens);
        all.add(Twins::lists);
        all.add(Twins::cuts);
        all.add(Twins::resets);
        all.add(Twins::unlocks);
        all.add(Twins::tokens);
        all.add(Twins::pins);
        all.add(Twins::pages);
        all.add(Twins::pagesOfTape);
        all.add(x -> logins(x, 0, 2));
        all.add(x -> logins(x, 1, 0));
        all.add(Twins::offers);
        all.add(Twins::nextOnes);
        return all;
    }

    /** A house with something of everything: three keys, four hands that have less and less, a party. */
    static PasskeyHouse furnished() {
        PasskeyHouse x = new PasskeyHouse();
        x.key();
        x.key();
        x.key();
        Bench.lay(x, "www.a.exa.ex");
        x.party(8, NAME);
        x.page(0, 8);
        x.page(1, 8);
        Bench.setPin(x, 0, 0, "1234");
        Bench.due("unlock", x.unlock(0, 0), 0);
        Bench.due("unlock without a PIN", x.unlock(1, 0), 49);
        int other = x.own(2);
        Bench.due("agree", x.agree(1, other), true);
        Bench.due("PUBLIC of key 0", Bench.send(x, 0, 6, Bench.map(1, 1, 2, 2)), 0);
        Bench.due("PUBLIC of key 1", Bench.send(x, 1, 6, Bench.map(1, 1, 2, 2)), 0);
        x.offer(0, '1', 1, false, true);
        made(x, 0, 0, 0, '1', 1, 3);
        Bench.due("judge", x.judge(0, -1), 0);
        made(x, 0, 77, -1, 0x3232, 2, 3);
        made(x, 1, 78, -1, '3', 1, 0);
        x.cut(1, 30);
        x.offer(0, '1', 1, true, true);
        x.offer(0, 0x3232, 2, false, false);
        Bench.lay(x, "tape!");
        for (int what = 0; what <= 4; what++) {
            x.seal(0, what, -1);
        }
        x.seal(1, 1, -1);
        x.seal(1, 2, -1);
        x.seal(1, 4, -1);
        x.seal(2, 4, -1);
        x.press(0);
        x.press(0);
        x.press(0);
        x.press(1);
        Bench.lay(x, "a.ex");
        Bench.due("get by name", x.get(0, 0, 79, 0, '1', 1, NAME, 10), 0);
        Bench.lay(x, "a.exwww.a.exa.ex");
        return x;
    }

    /** A furnished house with these bytes on the tape. */
    static Supplier<PasskeyHouse> taped(Object... parts) {
        return () -> {
            PasskeyHouse x = furnished();
            Bench.lay(x, parts);
            return x;
        };
    }

    private static void made(PasskeyHouse x, int key, int challenge, int party, long user, int m, int how) {
        x.press(key);
        Bench.lay(x, "a.ex");
        Bench.due("create", x.create(0, key, challenge, party, user, m, NAME, how), 0);
    }

    private static String tape(PasskeyHouse x, int from, int until) {
        StringBuilder all = new StringBuilder();
        for (int i = from; i < until; i++) {
            all.append(x.at(i)).append(' ');
        }
        return all.append(x.terms()).append(' ').append(x.wipe()).toString();
    }

    private static String answers(PasskeyHouse x) {
        StringBuilder all = new StringBuilder();
        for (int i = 0; i < 80; i++) {
            for (int k = 0; k < 3; k++) {
                all.append(x.answer(k, i)).append(' ');
            }
        }
        return all.toString();
    }

    private static String keys(PasskeyHouse x) {
        StringBuilder all = new StringBuilder();
        int terms = x.terms();
        for (int t = 1; t <= terms; t++) {
            all.append(x.sort(t)).append(' ');
        }
        for (int k = 0; k < 3; k++) {
            for (int what = 0; what < 12; what++) {
                all.append(x.told(k, what)).append(' ');
            }
            for (int i = 0; i < 4; i++) {
                for (int what = 0; what < 7; what++) {
                    all.append(x.credential(k, i, what)).append(' ');
                }
            }
        }
        return all.toString();
    }

    private static String flash(PasskeyHouse x, int key, int from) {
        StringBuilder all = new StringBuilder();
        for (int i = from; i < from + AREA; i++) {
            all.append(x.flash(key, i)).append(' ');
        }
        return all.toString();
    }

    private static String accounts(PasskeyHouse x) {
        StringBuilder all = new StringBuilder();
        for (int p = 0; p < 4; p++) {
            for (int i = -1; i < 8; i++) {
                for (int what = 0; what < 8; what++) {
                    all.append(x.account(p, i, what)).append(' ');
                }
            }
        }
        return all.toString();
    }

    /** What the hands have: the terms that were made by it in the scene have their numbers still. */
    private static String seals(PasskeyHouse x) {
        StringBuilder all = new StringBuilder();
        Bench.lay(x, "tape!");
        for (int what = 4; what >= 0; what--) {
            for (int hand = 0; hand < 4; hand++) {
                all.append(x.seal(hand, what, -1)).append(' ');
            }
        }
        return all.append(x.terms()).toString();
    }

    private static String opens(PasskeyHouse x) {
        StringBuilder all = new StringBuilder();
        int terms = x.terms();
        for (int t = 1; t <= terms; t++) {
            for (int hand = 0; hand < 4 && x.sort(t) == 4; hand++) {
                all.append(x.open(hand, t)).append(x.at(0)).append(' ');
            }
        }
        return all.toString();
    }

    private static String lists(PasskeyHouse x) {
        StringBuilder all = new StringBuilder();
        Bench.lay(x, 8);
        for (int k = 0; k < 3; k++) {
            for (int times = 0; times < 2; times++) {
                int n = x.command(k, -1);
                all.append(n).append(':');
                for (int i = 0; i < n; i++) {
                    all.append(x.answer(k, i)).append(' ');
                }
            }
        }
        return all.toString();
    }

    /** Each key writes until power fails, if it was told to; key 0 alone has a PIN, and its token is the hand's. */
    private static String cuts(PasskeyHouse x) {
        StringBuilder all = new StringBuilder();
        for (int k = 0; k < 3; k++) {
            for (int times = 0; times < 3; times++) {
                x.press(k);
                Bench.lay(x, "a.ex");
                all.append(x.create(0, k, 5, -1, 90, 1 + times, NAME, k == 0 ? 3 : 1)).append(' ');
            }
            all.append(x.told(k, 0)).append(' ').append(x.told(k, 1)).append(' ').append(x.told(k, 3)).append(' ');
        }
        return all.toString();
    }

    private static String resets(PasskeyHouse x) {
        StringBuilder all = new StringBuilder();
        for (int k = 0; k < 3; k++) {
            x.press(k);
            all.append(Bench.send(x, k, 7)).append(' ').append(x.told(k, 5)).append(' ');
        }
        return all.toString();
    }

    private static String unlocks(PasskeyHouse x) {
        StringBuilder all = new StringBuilder();
        for (int times = 0; times < 3; times++) {
            all.append(x.unlock(1, 0)).append(' ').append(x.told(0, 9)).append(' ').append(x.terms()).append(' ');
        }
        return all.append(x.unlock(0, 0)).toString();
    }

    private static String tokens(PasskeyHouse x) {
        StringBuilder all = new StringBuilder();
        for (int hand = 0; hand < 4; hand++) {
            Bench.lay(x, "a.ex");
            x.page(hand, NAME);
            all.append(x.create(hand, 0, 5, -1, 1, 1, NAME, 2)).append(' ').append(x.terms()).append(' ');
        }
        int terms = x.terms();
        for (int t = 1; t <= terms; t++) {
            for (int hand = 0; hand < 4 && x.sort(t) == 9; hand++) {
                all.append(x.token(hand, t)).append(' ');
            }
        }
        return all.append(x.unlock(0, 0)).append(x.terms()).toString();
    }

    /** The PIN that each hand types, seen by what it sends to key 2: ENC, which the hand can open, and MAC are made last. */
    private static String pins(PasskeyHouse x) {
        StringBuilder all = new StringBuilder();
        for (int hand = 0; hand < 4; hand++) {
            all.append(x.setPin(hand, 2)).append(' ').append(x.told(2, 10)).append(' ');
            int terms = x.terms();
            for (int t = terms - 3; t <= terms; t++) {
                int size = x.open(hand, t);
                all.append(x.sort(t)).append(' ').append(size).append(':');
                for (int i = 0; i < size; i++) {
                    all.append(x.at(i)).append(' ');
                }
            }
        }
        return all.toString();
    }

    private static String pages(PasskeyHouse x) {
        StringBuilder all = new StringBuilder();
        for (int hand = 0; hand < 4; hand++) {
            Bench.lay(x, "a.ex");
            all.append(x.get(hand, 0, 5, -1, 1, 1, NAME, 1)).append(':');
            for (int i = 0; i < 40; i++) {
                all.append(x.at(i)).append(' ');
            }
        }
        return all.toString();
    }

    /** Whether the first bytes of the tape, which may have become a page, are right for one; key 1 has no such credential. */
    private static String pagesOfTape(PasskeyHouse x) {
        StringBuilder all = new StringBuilder();
        for (int hand = 3; hand >= 0; hand--) {
            for (int n = 1; n <= 24; n++) {
                all.append(x.get(hand, 1, 5, -1, 1, 1, n, 0)).append(' ');
            }
        }
        return all.toString();
    }

    /** The offers, by what they are good for: with the PIN at key 0, and without it. */
    private static String logins(PasskeyHouse x, int key, int how) {
        StringBuilder all = new StringBuilder();
        for (int times = 0; times < 3; times++) {
            x.press(key);
            Bench.lay(x, "a.ex");
            all.append(x.create(0, key, 0, 0, 60 + times, 1, NAME, 4 + how)).append(' ').append(x.at(4)).append(' ');
            all.append(x.judge(0, -1)).append(' ');
            x.press(0);
            Bench.lay(x, "a.ex");
            all.append(x.get(0, 0, 0, 0, '1', 1, NAME, how)).append(' ').append(x.at(4)).append(' ');
            all.append(x.judge(0, -1)).append(' ');
        }
        return all.append(accounts(x)).toString();
    }

    private static String offers(PasskeyHouse x) {
        StringBuilder all = new StringBuilder();
        for (int p = 0; p < 4; p++) {
            all.append(x.offer(p, 1, 1, true, false)).append(' ').append(x.withdraw(p)).append(' ');
        }
        return all.toString();
    }

    /** The next secret, the next FRESH one, the next key and the next party. */
    private static String nextOnes(PasskeyHouse x) {
        StringBuilder all = new StringBuilder();
        x.press(2);
        int status = Bench.send(x, 2, 1, Bench.more(Bench.makeMap(1, "q", "u"), 7, Bench.map("rk", true)));
        all.append(status).append(x.told(2, 7));
        for (int i = 0; i < 40; i++) {
            all.append(' ').append(x.flash(2, i));
        }
        all.append(' ').append(x.own(3)).append(' ').append(x.key()).append(' ').append(x.terms()).append(' ');
        Bench.lay(x, "qq");
        return all.append(x.party(1, 1)).append(' ').append(x.party(1, 1)).toString();
    }
}
