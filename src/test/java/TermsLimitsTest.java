import java.util.List;

/** Terms, == TERMS: one number for each row for all time, four bytes, secrets of their own; seen by promises 6, 7, 12 to 32. */
public final class TermsLimitsTest {

    public static void main(String[] args) {
        Bench.run(TermsLimitsTest.class);
    }

    @Sentence("TERMS (promises 6, 20): each row that is made a term has one number for all time")
    static void sameRowSameNumber() {
        PasskeyHouse x = new PasskeyHouse();
        Bench.lay(x, "abcd");
        int first = x.seal(0, 0, -1);
        for (int i = 0; i < 100; i++) {
            x.own(0);
        }
        Bench.due("the same HASH", x.seal(2, 0, 4), first);
        Bench.due("terms", x.terms(), 101);
        Bench.lay(x, "xabcd");
        Bench.due("another one", x.seal(2, 0, 4), 102);
    }

    @Sentence("TERMS (promises 6, 20): the next one when it is made first")
    static void nextNumber() {
        PasskeyHouse x = new PasskeyHouse();
        Bench.due("PUBLIC", x.own(0), 1);
        Bench.due("FRESH by a key", x.key(), 0);
        Bench.due("HASH", x.seal(0, 0, 0), 3);
        Bench.due("SIGN", x.seal(0, 4, 0), 4);
        Bench.due("PUBLIC", x.own(1), 5);
    }

    @Sentence("TERMS (promise 20): rows of the same bytes and another first number are other terms")
    static void otherFirstNumber() {
        PasskeyHouse x = new PasskeyHouse();
        Bench.lay(x, "ab");
        x.own(0);
        x.agree(0, x.own(1));
        int enc = x.seal(0, 1, -1);
        int mac = x.seal(0, 2, -1);
        int sign = x.seal(0, 4, -1);
        int hash = x.seal(0, 0, -1);
        Bench.holds("four terms", enc < mac && mac < sign && sign < hash);
        Bench.due("terms", x.terms(), hash);
    }

    @Sentence("TERMS (promise 20): ENC and MAC of the same are other terms, whatever the bytes are")
    static void encAndMac() {
        for (int v = 0; v < 48; v++) {
            PasskeyHouse x = new PasskeyHouse();
            x.own(0);
            x.agree(0, x.own(1));
            Bench.lay(x, v, 0, "abcdef");
            for (int i = 0; i < 150; i++) {
                x.poke(1, i);
                Bench.due("ENC of " + v + " " + i, x.seal(0, 1, -1), 4 + 2 * i);
                Bench.due("MAC of " + v + " " + i, x.seal(0, 2, -1), 5 + 2 * i);
            }
        }
    }

    @Sentence("TERMS (promise 20): a row is its numbers, each at its place, and no more of them")
    static void nearRows() {
        PasskeyHouse x = new PasskeyHouse();
        String[] near = {"", "\0", "\0\0", "\1", "\1\0", "\0\1", "\1\1", "\u00ff", "\u0080", "\u007f", "ab", "ba", "abc"};
        for (int i = 0; i < near.length; i++) {
            Bench.lay(x, near[i]);
            Bench.due("HASH " + i, x.seal(0, 0, -1), 1 + i);
        }
        for (int i = 0; i < near.length; i++) {
            Bench.lay(x, near[i]);
            Bench.due("HASH " + i + " again", x.seal(0, 0, -1), 1 + i);
        }
    }

    @Sentence("TERMS (promise 21): bytes are 0 .. 255")
    static void bytesInRows() {
        PasskeyHouse x = new PasskeyHouse();
        x.own(0);
        x.agree(0, x.own(1));
        Bench.lay(x, 0, 127, 128, 255);
        int enc = x.seal(0, 1, -1);
        x.wipe();
        Bench.due("open", x.open(0, enc), 4);
        Bench.holds("the bytes", Bench.tapeIs(x, 0, 127, 128, 255));
    }

    @Sentence("TERMS (promises 12, 13): In bytes a term is four, the highest first")
    static void fourBytes() {
        PasskeyHouse x = new PasskeyHouse();
        x.key();
        for (int i = 2; i <= 254; i++) {
            x.own(0);
        }
        Bench.lay(x, Bench.bytes(6, Bench.map(1, 1, 2, 2)));
        x.command(0, -1);
        Bench.due("term 255", Bench.answerFour(x, 0, 4), 255);
        x.power(0, false);
        x.power(0, true);
        x.command(0, -1);
        Bench.due("term 256", Bench.answerFour(x, 0, 4), 256);
        int[] want = {0, 0, 1, 0};
        for (int i = 0; i < 4; i++) {
            Bench.due("byte " + i, x.answer(0, 4 + i), want[i]);
        }
        Bench.due("agree with 256", x.agree(0, 256), true);
    }

    @Sentence("TERMS (promise 12): four bytes that are no term: 0, above all, and with the highest bit")
    static void noTerms() {
        PasskeyHouse x = new PasskeyHouse();
        x.key();
        int own = x.own(0);
        byte[] some = Bench.four(own);
        for (int t : new int[] {0, x.terms() + 1, own + 256, own << 8, own << 24, own | 1 << 31, -1, Integer.MIN_VALUE}) {
            Bench.due("3 is " + t, Bench.send(x, 0, 6, Bench.map(1, 1, 2, 3, 3, Bench.four(t), 4, some, 5, some)), 2);
        }
        Bench.due("3 is it", Bench.send(x, 0, 6, Bench.map(1, 1, 2, 3, 3, some, 4, some, 5, some)), 51);
    }

    @Sentence("TERMS (promises 8, 28): SECRETS are numbers 1, 2, .. of their own, each new one the next")
    static void secrets() {
        PasskeyHouse x = new PasskeyHouse();
        x.own(0);
        x.key();
        x.own(1);
        Bench.store(x, 0, "a", "u");
        Bench.holds("1 a hand, 2 and 3 the key, 4 a hand, 5 the credential", secretIs(x, 12, 5));
        Bench.wrap(x, 0, "a");
        Bench.store(x, 0, "b", "u");
        Bench.holds("6 a WRAP, 7 the credential", secretIs(x, 29, 7));
        x.power(0, false);
        x.power(0, true);
        Bench.store(x, 0, "c", "u");
        Bench.holds("8 and 9 by waking, 10 the credential", secretIs(x, 46, 10));
    }

    private static boolean secretIs(PasskeyHouse x, int record, int secret) {
        int at = record + 2 + 8;
        return x.flash(0, at) == 0 && x.flash(0, at + 1) == 0 && x.flash(0, at + 2) == 0 && x.flash(0, at + 3) == secret;
    }

    @Sentence("TERMS (promises 8, 12): a refused MAKE makes no secret")
    static void noSecretByFaults() {
        PasskeyHouse x = new PasskeyHouse();
        x.key();
        Bench.due("no press", Bench.send(x, 0, 1, Bench.makeMap(1, "a", "u")), 39);
        Bench.due("a fault", Bench.send(x, 0, 1, Bench.map()), 20);
        Bench.store(x, 0, "a", "u");
        Bench.holds("1 and 2 the key, 3 the credential", secretIs(x, 12, 3));
    }

    @Sentence("TERMS (promises 8, 31): FRESH: how many FRESH ones there were before, so each one is another")
    static void fresh() {
        PasskeyHouse x = new PasskeyHouse();
        x.key();
        Bench.lay(x, "aa");
        x.party(1, 1);
        for (int i = 0; i < 4; i++) {
            Bench.due("offer", x.offer(0, 1, 1, false, false), 2 + i);
        }
        x.withdraw(0);
        Bench.due("another one when they are gone", x.offer(0, 1, 1, false, false), 6);
    }

    @Sentence("TERMS (promise 19): AGREED of two secrets: the lesser, the greater")
    static void agreed() {
        PasskeyHouse x = new PasskeyHouse();
        int one = x.own(0);
        int two = x.own(1);
        x.agree(0, two);
        int terms = x.terms();
        x.agree(1, one);
        Bench.due("the same from the other side", x.terms(), terms);
        x.agree(0, one);
        Bench.due("with oneself it is another", x.terms(), terms + 1);
        x.agree(0, one);
        Bench.due("the same again", x.terms(), terms + 1);
        x.agree(1, two);
        Bench.due("of the other with itself", x.terms(), terms + 2);
    }

    @Sentence("TERMS (promises 12, 32): Where a term is compared with what a row would be, no new term is made by that")
    static void comparing() {
        PasskeyHouse x = new PasskeyHouse();
        x.key();
        int own = x.own(0);
        int terms = x.terms();
        byte[] some = Bench.four(1);
        Bench.send(x, 0, 2, Bench.signMap(1, "name"));
        Bench.due("HASH of a name that is looked for", x.terms(), terms);
        Bench.send(x, 0, 1, Bench.more(Bench.makeMap(1, "name", "u"), 5, List.of(Bench.entry(1))));
        Bench.due("HASH of a name for entries of 5", x.terms(), terms);
        Bench.send(x, 0, 6, Bench.map(1, 1, 2, 3, 3, Bench.four(own), 4, some, 5, some));
        Bench.due("AGREED and MAC", x.terms(), terms);
        Bench.setPin(x, 1, 0, "1234");
        terms = x.terms();
        Bench.send(x, 0, 6, Bench.map(1, 1, 2, 5, 3, Bench.four(own), 6, some));
        Bench.due("AGREED and ENC of a TRY", x.terms(), terms);
        Bench.send(x, 0, 1, Bench.more(Bench.makeMap(1, "name", "u"), 8, some, 9, 1));
        Bench.due("MARK of the PIN TEST", x.terms(), terms);
    }

    @Sentence("TERMS (promise 32): a party that compares makes no term")
    static void comparingAtParties() {
        PasskeyHouse x = new PasskeyHouse();
        Bench.lay(x, "aa");
        x.party(1, 1);
        int challenge = x.offer(0, 1, 1, false, false);
        Bench.lay(x, 1, Bench.four(challenge), 1, "a", Bench.four(1), 17, new byte[17], Bench.four(1));
        Bench.due("judge", x.judge(0, -1), 5);
        Bench.due("HASH of the name", x.terms(), 1);
        Bench.lay(x, "a");
        int name = x.seal(0, 0, -1);
        int own = x.own(0);
        challenge = x.offer(0, 1, 1, false, false);
        byte[] data = Bench.bytes(Bench.four(name), 65, Bench.four(0), Bench.four(9), Bench.four(own));
        Bench.lay(x, 1, Bench.four(challenge), 1, "a", Bench.four(9), 17, data, Bench.four(1));
        int terms = x.terms();
        Bench.due("judge", x.judge(0, -1), 8);
        Bench.due("HASH of the client data and SIGN", x.terms(), terms);
    }
}
