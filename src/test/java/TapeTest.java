/** Promises 1 to 7: a new object, the tape, terms. */
public final class TapeTest {

    public static void main(String[] args) {
        newObject();
        feeding();
        limit();
        poking();
        counting();
        manyTerms();
        termsOfClients();
        Bench.end();
    }

    private static void newObject() {
        PasskeyHouse x = new PasskeyHouse();
        Bench.due("at of an empty tape", x.at(0), -1);
        Bench.due("terms of a new object", x.terms(), 0);
        Bench.due("sort of no term", x.sort(1), -1);
        Bench.due("told of no key", x.told(0, 0), -1);
        Bench.due("account of no party", x.account(0, -1, 0), -1);
        Bench.due("wipe of an empty tape", x.wipe(), 0);
        Bench.due("NONE", PasskeyHouse.NONE, -1);
        Bench.due("FOREIGN", PasskeyHouse.FOREIGN, -2);
        Bench.due("SILENT", PasskeyHouse.SILENT, -3);
    }

    private static void feeding() {
        PasskeyHouse x = new PasskeyHouse();
        Bench.due("feed 3 bytes", x.feed(0x11223344556677L, 3), 3);
        Bench.due("highest first", x.at(0), 0x55);
        Bench.due("then the next", x.at(1), 0x66);
        Bench.due("then the lowest", x.at(2), 0x77);
        Bench.due("no byte there", x.at(3), -1);
        Bench.due("at -1", x.at(-1), -1);
        Bench.due("at far", x.at(Integer.MAX_VALUE), -1);
        Bench.due("at least", x.at(Integer.MIN_VALUE), -1);
        Bench.due("feed 0", x.feed(1, 0), -1);
        Bench.due("feed 9", x.feed(1, 9), -1);
        Bench.due("feed -1", x.feed(1, -1), -1);
        Bench.due("feed 8", x.feed(Long.MIN_VALUE, 8), 11);
        Bench.due("high byte", x.at(3), 128);
        Bench.due("low byte", x.at(10), 0);
        Bench.due("wipe", x.wipe(), 11);
        Bench.due("wiped", x.at(0), -1);
        Bench.due("feed 1", x.feed(-1, 1), 1);
        Bench.due("byte of -1", x.at(0), 255);
    }

    private static void limit() {
        PasskeyHouse x = new PasskeyHouse();
        for (int i = 1; i <= 49; i++) {
            Bench.due("feed", x.feed(i, 8), 8 * i);
        }
        Bench.due("feed 7", x.feed(1, 7), 399);
        Bench.due("feed 2 above 400", x.feed(1, 2), -1);
        Bench.due("nothing came", x.at(399), -1);
        Bench.due("feed 1 to 400", x.feed(7, 1), 400);
        Bench.due("the last", x.at(399), 7);
        Bench.due("feed above 400", x.feed(1, 1), -1);
        Bench.due("a whole tape is a term", x.seal(0, 0, -1), 1);
        Bench.due("another last byte", x.poke(399, 8), 7);
        Bench.due("another term", x.seal(0, 0, -1), 2);
        Bench.due("wipe 400", x.wipe(), 400);
    }

    private static void poking() {
        PasskeyHouse x = new PasskeyHouse();
        x.feed(0x0102, 2);
        Bench.due("poke", x.poke(1, 255), 2);
        Bench.due("poked", x.at(1), 255);
        Bench.due("poke 0", x.poke(0, 0), 1);
        Bench.due("poke 256", x.poke(0, 256), -1);
        Bench.due("poke -1", x.poke(0, -1), -1);
        Bench.due("poke behind", x.poke(2, 1), -1);
        Bench.due("poke before", x.poke(-1, 1), -1);
        Bench.due("still", x.at(0), 0);
        x.wipe();
        Bench.due("poke of a wiped byte", x.poke(0, 1), -1);
    }

    /** So many rows that some share what a quick search goes by; each keeps its number. */
    private static void manyTerms() {
        PasskeyHouse x = new PasskeyHouse();
        x.feed(0, 8);
        for (int round = 0; round < 2; round++) {
            for (int i = 0; i < 120; i++) {
                x.poke(i % 8, i);
                Bench.due("term of row " + i, x.seal(0, 0, -1), 1 + i);
            }
            x.wipe();
            x.feed(0, 8);
        }
        Bench.due("terms", x.terms(), 120);
        PasskeyHouse y = new PasskeyHouse();
        for (int i = 0; i < 50; i++) {
            y.feed(i, 8);
        }
        for (int i = 0; i < 140; i++) {
            y.poke(i, 200);
            Bench.due("term of a long row", y.seal(0, 0, -1), 1 + i);
        }
        y.poke(139, 0);
        Bench.due("an earlier one", y.seal(0, 0, -1) <= 139, true);
        Bench.due("sort of the first", y.sort(1), 7);
        Bench.due("sort of the last", y.sort(140), 7);
    }

    /** Clients make several terms a call, so that there are many before the calls end. */
    private static void termsOfClients() {
        PasskeyHouse x = new PasskeyHouse();
        x.key();
        Bench.setPin(x, 0, 0, "1234");
        int terms = x.terms();
        for (int i = 0; i < 150; i++) {
            Bench.due("unlock", x.unlock(0, 0), 0);
            Bench.due("terms", x.terms(), terms + 4 * (i + 1));
        }
        int[] sorts = {2, 3, 4, 9};
        for (int i = 0; i < 100; i++) {
            Bench.due("sort", x.sort(terms + 1 + 5 * i), sorts[5 * i % 4]);
        }
    }

    private static void counting() {
        PasskeyHouse x = new PasskeyHouse();
        x.feed(5, 2);
        Bench.due("HASH", x.seal(0, 0, 2), 1);
        Bench.due("the same HASH", x.seal(1, 0, -1), 1);
        Bench.due("another HASH", x.seal(0, 0, 1), 2);
        Bench.due("HASH of none", x.seal(0, 0, 0), 3);
        Bench.due("terms", x.terms(), 3);
        Bench.due("a PUBLIC", x.own(0), 4);
        Bench.due("a FRESH for a key", x.key(), 0);
        Bench.due("terms then", x.terms(), 5);
        Bench.due("sort of HASH", x.sort(1), 7);
        Bench.due("sort of PUBLIC", x.sort(4), 2);
        Bench.due("sort of FRESH", x.sort(5), 1);
        Bench.due("sort of 6", x.sort(6), -1);
        Bench.due("sort of 0", x.sort(0), -1);
        Bench.due("sort of -1", x.sort(-1), -1);
        Bench.due("sort of the greatest", x.sort(Integer.MAX_VALUE), -1);
        Bench.due("sort of the least", x.sort(Integer.MIN_VALUE), -1);
    }
}
