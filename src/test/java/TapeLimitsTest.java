/** Promises 1 to 7: the boundary cases of a new object, the tape, and the counting of terms. */
public final class TapeLimitsTest {

    private static final int LEAST = Integer.MIN_VALUE;
    private static final int MOST = Integer.MAX_VALUE;
    private static final long WORD = 0x8182838485868788L;

    public static void main(String[] args) {
        Bench.run(TapeLimitsTest.class);
    }

    // ---- Promise 1: a new object

    @Sentence("Promise 1: No keys")
    static void noKeys() {
        PasskeyHouse x = new PasskeyHouse();
        Bench.due("told", x.told(0, 0), -1);
        Bench.due("flash", x.flash(0, 0), -1);
        Bench.due("press", x.press(0), -1);
        Bench.due("power", x.power(0, true), false);
        Bench.due("cut", x.cut(0, 0), false);
        Bench.due("command", x.command(0, 0), -1);
        Bench.due("the first key is 0", x.key(), 0);
    }

    @Sentence("Promise 1: no parties")
    static void noParties() {
        PasskeyHouse x = new PasskeyHouse();
        Bench.due("account", x.account(0, -1, 0), -1);
        Bench.due("offer", x.offer(0, 1, 1, false, false), -1);
        Bench.due("withdraw", x.withdraw(0), -1);
        Bench.due("judge", x.judge(0, 0), -1);
        Bench.lay(x, "aa");
        Bench.due("the first party is 0", x.party(1, 1), 0);
    }

    @Sentence("Promise 1: an empty tape")
    static void emptyTape() {
        PasskeyHouse x = new PasskeyHouse();
        Bench.due("at 0", x.at(0), -1);
        Bench.due("poke 0", x.poke(0, 0), -1);
        Bench.due("wipe", x.wipe(), 0);
    }

    @Sentence("Promise 1: no terms")
    static void noTerms() {
        PasskeyHouse x = new PasskeyHouse();
        Bench.due("terms", x.terms(), 0);
        Bench.due("sort 1", x.sort(1), -1);
        Bench.due("the first one is 1", x.own(0), 1);
    }

    @Sentence("Promise 1: objects have nothing of one another")
    static void twoObjects() {
        PasskeyHouse x = Twins.furnished();
        PasskeyHouse y = new PasskeyHouse();
        Bench.due("terms", y.terms(), 0);
        Bench.due("at 0", y.at(0), -1);
        Bench.due("told", y.told(0, 0), -1);
        Bench.due("account", y.account(0, -1, 0), -1);
        Bench.due("the first secret", y.own(0), 1);
        Bench.due("the other has its tape", x.at(0), 'a');
    }

    // ---- Promise 2: feed

    @Sentence("Promise 2: The n lowest bytes of w, the highest of them first, come behind the tape")
    static void lowestBytes() {
        for (int n = 1; n <= 8; n++) {
            PasskeyHouse x = new PasskeyHouse();
            x.feed(7, 1);
            Bench.due("feed " + n, x.feed(WORD, n), 1 + n);
            Bench.due("what was there", x.at(0), 7);
            for (int j = 0; j < n; j++) {
                Bench.due("byte " + j + " of " + n, x.at(1 + j), 0x88 - (n - 1 - j));
            }
            Bench.due("none behind", x.at(1 + n), -1);
        }
    }

    @Sentence("Promise 2: bytes are 0 .. 255, of negative numbers too")
    static void bytesOfNegatives() {
        PasskeyHouse x = new PasskeyHouse();
        x.feed(-1L, 8);
        x.feed(Long.MIN_VALUE, 8);
        x.feed(Long.MAX_VALUE, 8);
        int[] want = {255, 255, 255, 255, 255, 255, 255, 255, 128, 0, 0, 0, 0, 0, 0, 0, 127, 255, 255, 255, 255, 255, 255, 255};
        for (int i = 0; i < want.length; i++) {
            Bench.due("byte " + i, x.at(i), want[i]);
        }
    }

    @Sentence("Promise 2: NONE: n is not 1 .. 8")
    static void feedOfOtherN() {
        Twins.refused(Twins::furnished, "feed", x -> x.feed(WORD, 0), x -> x.feed(WORD, 9), x -> x.feed(WORD, -1),
            x -> x.feed(WORD, LEAST), x -> x.feed(WORD, MOST), x -> x.feed(WORD, 16));
        PasskeyHouse x = new PasskeyHouse();
        Bench.due("n 1", x.feed(WORD, 1), 1);
        Bench.due("n 8", x.feed(WORD, 8), 9);
    }

    @Sentence("Promise 2: NONE: or there would be more than 400")
    static void feedAbove400() {
        Twins.refused(Twins.taped(Bench.text(400)), "feed to a full tape", x -> x.feed(WORD, 1), x -> x.feed(WORD, 8));
        for (int n = 2; n <= 8; n++) {
            int more = n;
            Twins.refused(Twins.taped(Bench.text(401 - n)), "feed " + n + " to 401", x -> x.feed(WORD, more));
        }
        for (int n = 1; n <= 8; n++) {
            PasskeyHouse x = new PasskeyHouse();
            Bench.lay(x, Bench.text(400 - n));
            Bench.due("feed " + n + " to 400", x.feed(WORD, n), 400);
            Bench.due("the last", x.at(399), 0x88);
            Bench.due("no byte 400", x.at(400), -1);
        }
    }

    // ---- Promise 3: wipe

    @Sentence("Promise 3: The tape is empty then: how many bytes it had")
    static void wiping() {
        for (int size : new int[] {0, 1, 8, 9, 399, 400}) {
            PasskeyHouse x = new PasskeyHouse();
            Bench.lay(x, Bench.text(size));
            Bench.due("wipe of " + size, x.wipe(), size);
            Bench.due("no byte 0", x.at(0), -1);
            Bench.due("no last one", x.at(size - 1), -1);
            Bench.due("wipe again", x.wipe(), 0);
            Bench.due("feed", x.feed(5, 1), 1);
            Bench.due("what was there is not seen", x.at(1), -1);
            Bench.due("nor poked", x.poke(1, 1), -1);
        }
    }

    @Sentence("Promise 3: a full tape takes 400 bytes again when it is wiped")
    static void fullAgain() {
        PasskeyHouse x = new PasskeyHouse();
        Bench.lay(x, Bench.text(400));
        Bench.lay(x, Bench.text(399), 7);
        Bench.due("the last", x.at(399), 7);
        Bench.due("wipe", x.wipe(), 400);
    }

    // ---- Promise 4: at

    @Sentence("Promise 4: Byte i of the tape; NONE when there is none")
    static void atTheEnds() {
        PasskeyHouse x = new PasskeyHouse();
        Bench.due("of an empty tape", x.at(0), -1);
        x.feed(0, 1);
        Bench.due("byte 0 may be 0", x.at(0), 0);
        Bench.due("byte 1", x.at(1), -1);
        Bench.lay(x, 1, Bench.text(398), 255);
        Bench.due("byte 0", x.at(0), 1);
        Bench.due("byte 399", x.at(399), 255);
        for (int i : new int[] {400, 401, 512, MOST, -1, -2, LEAST}) {
            Bench.due("byte " + i, x.at(i), -1);
        }
    }

    @Sentence("Promise 4: at changes nothing")
    static void atChangesNothing() {
        Twins.refused(Twins::furnished, "at", x -> x.at(16), x -> x.at(-1), x -> x.at(MOST), x -> x.at(LEAST));
    }

    // ---- Promise 5: poke

    @Sentence("Promise 5: Byte i of the tape becomes v: what it was")
    static void poking() {
        PasskeyHouse x = new PasskeyHouse();
        Bench.lay(x, Bench.text(400));
        for (int i : new int[] {0, 1, 398, 399}) {
            Bench.due("poke 0", x.poke(i, 0), 'n');
            Bench.due("it is 0", x.at(i), 0);
            Bench.due("poke 255", x.poke(i, 255), 0);
            Bench.due("it is 255", x.at(i), 255);
            Bench.due("poke the same", x.poke(i, 255), 255);
        }
        Bench.due("those beside it stay", x.at(2), 'n');
        Bench.due("those beside it stay", x.at(397), 'n');
        Bench.due("as many bytes", x.wipe(), 400);
    }

    @Sentence("Promise 5: NONE: there is no such byte")
    static void pokeOfNoByte() {
        Twins.refused(Twins::furnished, "poke", x -> x.poke(16, 1), x -> x.poke(17, 1), x -> x.poke(-1, 1),
            x -> x.poke(LEAST, 1), x -> x.poke(MOST, 1), x -> x.poke(400, 1));
        Twins.refused(Twins.taped(Bench.text(0)), "poke of an empty tape", x -> x.poke(0, 1));
        Twins.refused(Twins.taped(Bench.text(400)), "poke of a full tape", x -> x.poke(400, 1), x -> x.poke(-1, 1));
        PasskeyHouse x = new PasskeyHouse();
        Bench.lay(x, Bench.text(16));
        Bench.due("the last byte", x.poke(15, 1), 'n');
    }

    @Sentence("Promise 5: NONE: or v is not 0 .. 255")
    static void pokeOfNoValue() {
        Twins.refused(Twins::furnished, "poke", x -> x.poke(0, 256), x -> x.poke(0, -1), x -> x.poke(15, LEAST),
            x -> x.poke(15, MOST), x -> x.poke(3, 512), x -> x.poke(3, -256));
    }

    // ---- Promise 6: terms

    @Sentence("Promise 6: How many terms there are: one more only when a row is made first")
    static void counting() {
        PasskeyHouse x = new PasskeyHouse();
        Bench.due("HASH of nothing", x.seal(0, 0, 0), 1);
        Bench.due("terms", x.terms(), 1);
        Bench.due("the same row", x.seal(3, 0, -1), 1);
        Bench.due("terms", x.terms(), 1);
        x.feed(0, 1);
        Bench.due("HASH of a byte 0", x.seal(0, 0, 1), 2);
        Bench.due("terms", x.terms(), 2);
        Bench.due("terms by asking", x.terms(), 2);
    }

    @Sentence("Promise 6: terms by 512 calls, the dearest ones")
    static void mostTerms() {
        PasskeyHouse x = new PasskeyHouse();
        x.key();
        Bench.setPin(x, 0, 0, "1234");
        int calls = 5;
        int terms = x.terms();
        while (calls < 500) {
            Bench.due("changePin", x.changePin(0, 0, 4), 0);
            calls++;
            terms += 5;
        }
        Bench.due("terms", x.terms(), terms);
        Bench.due("the last one", x.sort(terms), 5);
    }

    @Sentence("Promise 6: terms of as many bytes as there may be")
    static void longestTerms() {
        PasskeyHouse x = new PasskeyHouse();
        Bench.lay(x, Bench.text(400));
        int calls = 51;
        int want = 0;
        for (int i = 0; calls + 2 < 510; i++) {
            x.poke(i, 1);
            want++;
            calls += 2;
            Bench.due("a term", x.seal(0, 0, -1), want);
        }
        Bench.due("terms", x.terms(), want);
        Bench.due("sort", x.sort(want), 7);
    }

    // ---- Promise 7: sort

    /** A house in which each of the ten sorts was made. */
    private static PasskeyHouse allSorts() {
        PasskeyHouse x = new PasskeyHouse();
        x.key();
        Bench.setPin(x, 0, 0, "1234");
        x.unlock(0, 0);
        Bench.lay(x, "a");
        x.page(0, 1);
        x.press(0);
        Bench.due("create", x.create(0, 0, 1, -1, 1, 1, 1, 2), 0);
        return x;
    }

    @Sentence("Promise 7: The first number (1 .. 10) of a term's row")
    static void allTenSorts() {
        PasskeyHouse x = allSorts();
        // By key(); setPin(): two PUBLIC, AGREED, ENC, MAC, HASH; unlock(): PUBLIC, AGREED, ENC, SENT; create().
        int[] want = {1, 2, 2, 3, 4, 5, 7, 2, 3, 4, 9, 7, 10, 7, 8, 2, 6};
        for (int t = 1; t <= want.length; t++) {
            Bench.due("sort of " + t, x.sort(t), want[t - 1]);
        }
        Bench.due("terms", x.terms(), want.length);
    }

    @Sentence("Promise 7: NONE when there is no such term")
    static void sortOfNoTerm() {
        PasskeyHouse x = allSorts();
        int terms = x.terms();
        for (int t : new int[] {0, -1, LEAST, MOST, terms + 1, terms + 2, 256 + 1, 65536 + 1, 1 << 24}) {
            Bench.due("sort of " + t, x.sort(t), -1);
        }
        Bench.due("the last one", x.sort(terms), 6);
        Twins.refused(Twins::furnished, "sort", y -> y.sort(0), y -> y.sort(-1), y -> y.sort(MOST), y -> y.sort(LEAST));
    }
}
