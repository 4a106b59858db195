/** Promise 12, 6 PIN: its boundary cases, in the order in which they are told; all by hand, without clients. */
public final class PinLimitsTest {

    private static final int HAND = 0;

    public static void main(String[] args) {
        Bench.run(PinLimitsTest.class);
    }

    /** A key whose PIN is "1234", and a hand that types another one. */
    private static PasskeyHouse withPin() {
        PasskeyHouse x = Bench.house();
        Bench.due("set", Bench.send(x, 0, 6, set(x, meet(x), "1234")), 0);
        Bench.lay(x, "4321");
        x.pin(1, 4);
        return x;
    }

    /** A status other than 0 by which nothing is written and no term is made. */
    private static void fault(PasskeyHouse x, String what, Bench.Pairs map, int want) {
        int terms = x.terms();
        int acts = x.told(0, 1);
        Bench.due(what, Bench.send(x, 0, 6, map), want);
        Bench.holds(what + ": the status alone", Bench.answers(x, 0, want));
        Bench.due(what + ": terms", x.terms(), terms);
        Bench.due(what + ": acts", x.told(0, 1), acts);
    }

    private static int asked(PasskeyHouse x) {
        Bench.due("ask", Bench.send(x, 0, 6, Bench.map(1, 1, 2, 2)), 0);
        return Bench.answerFour(x, 0, 4);
    }

    /** A hand agrees with the key; its own PUBLIC. */
    private static int meet(PasskeyHouse x) {
        int own = x.own(HAND);
        Bench.due("agree", x.agree(HAND, asked(x)), true);
        return own;
    }

    private static int sealed(PasskeyHouse x, int what, Object... parts) {
        Bench.lay(x, parts);
        return x.seal(HAND, what, -1);
    }

    private static Bench.Pairs set(PasskeyHouse x, int own, Object pin) {
        int five = sealed(x, 1, pin);
        int four = sealed(x, 2, Bench.four(five));
        return Bench.map(1, 1, 2, 3, 3, Bench.four(own), 4, Bench.four(four), 5, Bench.four(five));
    }

    private static Bench.Pairs change(PasskeyHouse x, int own, Object pin, Object old) {
        int five = sealed(x, 1, pin);
        int six = sealed(x, 1, Bench.four(sealed(x, 0, old)));
        int four = sealed(x, 2, Bench.four(five), Bench.four(six));
        return Bench.map(1, 1, 2, 4, 3, Bench.four(own), 4, Bench.four(four), 5, Bench.four(five), 6, Bench.four(six));
    }

    private static Bench.Pairs ask(PasskeyHouse x, int own, Object pin) {
        int six = sealed(x, 1, Bench.four(sealed(x, 0, pin)));
        return Bench.map(1, 1, 2, 5, 3, Bench.four(own), 6, Bench.four(six));
    }

    // ---- members

    @Sentence("PIN (promise 12): 1 is not 1, or 2 not 1 .. 5: 2")
    static void steps() {
        PasskeyHouse x = Bench.house();
        for (int v : new int[] {0, 2, 3, 24, 256, 65536, Integer.MAX_VALUE}) {
            fault(x, "1 is " + v, Bench.map(1, v, 2, 1), 2);
        }
        for (int v : new int[] {0, 6, 7, 24, 256, 65536, Integer.MAX_VALUE}) {
            fault(x, "2 is " + v, Bench.map(1, 1, 2, v), 2);
        }
        Bench.due("2 is 1", Bench.send(x, 0, 6, Bench.map(1, 1, 2, 1)), 0);
        Bench.due("2 is 2", Bench.send(x, 0, 6, Bench.map(1, 1, 2, 2)), 0);
        for (int v = 3; v <= 5; v++) {
            fault(x, "2 is " + v, Bench.map(1, 1, 2, v), 20);
            fault(x, "1 is 2, 2 is " + v, Bench.map(1, 2, 2, v), 2);
        }
    }

    @Sentence("PIN (promise 12): members 3, and 4 and 5 (for 3, 4), and 6 (for 4, 5) must be there (20)")
    static void members() {
        byte[] some = Bench.four(1);
        int[] whole = {51, 53, 53};
        for (int step = 3; step <= 5; step++) {
            PasskeyHouse x = Bench.house();
            byte[] pub = Bench.four(x.own(HAND));
            for (int there = 0; there < 16; there++) {
                Bench.Pairs map = Bench.map(1, 1, 2, step);
                for (int i = 3; i <= 6; i++) {
                    map = (there >> (i - 3) & 1) == 0 ? map : Bench.more(map, i, i == 3 ? pub : some);
                }
                int wanted = step == 3 ? 7 : step == 4 ? 15 : 9;
                fault(x, step + " with " + there, map, (there & wanted) == wanted ? whole[step - 3] : 20);
            }
        }
        PasskeyHouse y = Bench.house();
        Bench.due("1 wants none", Bench.send(y, 0, 6, Bench.map(1, 1, 2, 1, 5, some)), 0);
        Bench.due("2 wants none", Bench.send(y, 0, 6, Bench.map(1, 1, 2, 2, 6, some)), 0);
    }

    @Sentence("PIN (promise 12): 3 is a PUBLIC (else 2): before 51, 53, 50, behind 20")
    static void publics() {
        PasskeyHouse x = Bench.house();
        int own = x.own(HAND);
        int hash = x.seal(HAND, 0, 0);
        byte[] some = Bench.four(1);
        byte[][] wrong = {Bench.four(0), Bench.four(1), Bench.four(hash), Bench.four(hash + 1), Bench.four(-1), Bench.bytes(),
            Bench.bytes(own), Bench.bytes(0, 0, own), Bench.bytes(0, Bench.four(own)), Bench.bytes(Bench.four(own), 0)};
        for (byte[] three : wrong) {
            fault(x, "for 3", Bench.map(1, 1, 2, 3, 3, three, 4, some, 5, some), 2);
            fault(x, "for 4", Bench.map(1, 1, 2, 4, 3, three, 4, some, 5, some, 6, some), 2);
            fault(x, "for 5", Bench.map(1, 1, 2, 5, 3, three, 6, some), 2);
            fault(x, "20 before it", Bench.map(1, 1, 2, 5, 3, three), 20);
        }
        fault(x, "a PUBLIC, for 3", Bench.map(1, 1, 2, 3, 3, Bench.four(own), 4, some, 5, some), 51);
        fault(x, "a PUBLIC, for 5", Bench.map(1, 1, 2, 5, 3, Bench.four(own), 6, some), 53);
        PasskeyHouse z = new PasskeyHouse();
        Bench.due("term 1 is a PUBLIC", z.own(HAND), 1);
        z.key();
        for (byte[] three : new byte[][] {Bench.bytes(), Bench.bytes(1), Bench.bytes(0, 0, 1), Bench.bytes(Bench.four(1), 0)}) {
            fault(z, "of " + three.length + " bytes", Bench.map(1, 1, 2, 3, 3, three, 4, some, 5, some), 2);
        }
        PasskeyHouse y = withPin();
        fault(y, "2 before 51, for 3", Bench.map(1, 1, 2, 3, 3, some, 4, some, 5, some), 2);
        fault(y, "2 before a TRY", Bench.map(1, 1, 2, 5, 3, some, 6, some), 2);
    }

    @Sentence("PIN (promise 12): THE KEY is AGREED of its secret and that of 3 (no term is made of that here)")
    static void nothingAgreed() {
        PasskeyHouse x = withPin();
        byte[] own = Bench.four(x.own(1));
        byte[] some = Bench.four(1);
        fault(x, "a PUBLIC of a hand that did not agree", Bench.map(1, 1, 2, 4, 3, own, 4, some, 5, some, 6, some), 51);
        int terms = x.terms();
        Bench.due("a TRY by it is wrong", Bench.send(x, 0, 6, Bench.map(1, 1, 2, 5, 3, own, 6, some)), 49);
        Bench.due("no term", x.terms(), terms);
        byte[] key = Bench.four(asked(x));
        terms = x.terms();
        Bench.due("the key's own PUBLIC", Bench.send(x, 0, 6, Bench.map(1, 1, 2, 5, 3, key, 6, Bench.four(0))), 49);
        Bench.due("no term", x.terms(), terms);
    }

    // ---- 1 and 2

    @Sentence("PIN 1 (promise 12): answer 3 how many TRIES are left, 8 to 0")
    static void triesTold() {
        PasskeyHouse x = Bench.house();
        Bench.due("ask", Bench.send(x, 0, 6, Bench.map(1, 1, 2, 1)), 0);
        Bench.holds("8 without a PIN", Bench.answers(x, 0, 0, Bench.map(3, 8)));
        x = withPin();
        for (int left = 8; left >= 0; left--) {
            Bench.due("ask", Bench.send(x, 0, 6, Bench.map(1, 1, 2, 1)), 0);
            Bench.holds(left + " are left", Bench.answers(x, 0, 0, Bench.map(3, left)));
            Bench.powerOver(x);
            x.unlock(1, 0);
        }
    }

    @Sentence("PIN 2 (promise 12): answer 1 PUBLIC of its secret to agree with: one term until there is a new secret")
    static void publicTold() {
        PasskeyHouse x = withPin();
        int first = asked(x);
        int terms = x.terms();
        Bench.due("the same", asked(x), first);
        Bench.holds("its answer", Bench.answers(x, 0, 0, Bench.map(1, Bench.four(first))));
        Bench.due("a PUBLIC", x.sort(first), 2);
        Bench.due("no other term", x.terms(), terms);
        Bench.due("a right TRY", Bench.unlock(x, 2, 0, "1234"), 0);
        Bench.due("the same", asked(x), first);
        Bench.due("a wrong TRY", x.unlock(1, 0), 49);
        int second = asked(x);
        Bench.holds("another", second != first);
        Bench.powerOver(x);
        Bench.holds("another", asked(x) != second);
    }

    // ---- 3

    @Sentence("PIN 3 (promise 12): there is a PIN: 51")
    static void setTwice() {
        PasskeyHouse x = withPin();
        fault(x, "all right but for the PIN", set(x, meet(x), "5678"), 51);
        fault(x, "a short one", set(x, meet(x), "5"), 51);
        Bench.due("the PIN stays", Bench.unlock(x, 2, 0, "1234"), 0);
    }

    @Sentence("PIN 3 (promise 12): 4 is not the MAC of THE KEY and 5: 51")
    static void setProof() {
        PasskeyHouse x = Bench.house();
        int own = meet(x);
        Bench.Pairs good = set(x, own, "1234");
        byte[] proof = Bench.four(sealed(x, 2, Bench.bytes(good.parts()[9])));
        byte[][] wrong = {Bench.bytes(), Bench.four(0), Bench.four(1), Bench.bytes(proof, 0), Bench.bytes(0, proof), Bench.bytes(1),
            Bench.four(sealed(x, 2, "1234")), Bench.four(sealed(x, 2)), Bench.four(sealed(x, 1, Bench.bytes(good.parts()[9])))};
        for (byte[] four : wrong) {
            fault(x, "4 is another", Bench.with(good, 4, four), 51);
        }
        fault(x, "3 is another", Bench.with(good, 3, Bench.four(x.own(1))), 51);
        fault(x, "5 is another", Bench.with(good, 5, Bench.four(1)), 51);
        fault(x, "51 before 55", Bench.with(set(x, own, "1"), 4, Bench.four(1)), 51);
        Bench.due("it, and 6 is passed over", Bench.send(x, 0, 6, Bench.more(good, 6, Bench.bytes("abc"))), 0);
    }

    @Sentence("A NEW PIN (promise 12): 5 is no ENC of THE KEY and 4 .. 12 bytes: 55")
    static void pinLengths() {
        for (int size : new int[] {0, 1, 3, 4, 5, 11, 12, 13, 14, 100}) {
            boolean good = size >= 4 && size <= 12;
            PasskeyHouse x = Bench.house();
            Bench.Pairs map = set(x, meet(x), Bench.text(size));
            Bench.due("set of " + size, Bench.send(x, 0, 6, map), good ? 0 : 55);
            Bench.holds("the status alone", Bench.answers(x, 0, good ? 0 : 55));
            Bench.due("a PIN", x.told(0, 10), good ? 1 : 0);
            Bench.due("acts", x.told(0, 1), good ? 8 : 0);
            PasskeyHouse y = withPin();
            Bench.due("change to " + size, Bench.send(y, 0, 6, change(y, meet(y), Bench.text(size), "1234")), good ? 0 : 55);
            Bench.due("the PIN", Bench.unlock(y, 2, 0, good ? Bench.text(size) : "1234"), 0);
        }
    }

    @Sentence("A NEW PIN (promise 12): 5 is no ENC of THE KEY: another sort, another key, no term: 55")
    static void pinOfOther() {
        PasskeyHouse x = Bench.house();
        int own = meet(x);
        x.own(2);
        x.agree(2, x.own(3));
        Bench.lay(x, "1234");
        int[] wrong = {x.seal(HAND, 0, -1), x.seal(HAND, 2, -1), x.seal(HAND, 4, -1), x.seal(2, 1, -1), own, 0, -1, 10000};
        for (int five : wrong) {
            int four = sealed(x, 2, Bench.four(five));
            fault(x, "5 is " + five, Bench.map(1, 1, 2, 3, 3, Bench.four(own), 4, Bench.four(four), 5, Bench.four(five)), 55);
        }
        byte[] enc = Bench.four(sealed(x, 1, "1234"));
        for (byte[] five : new byte[][] {Bench.bytes(), Bench.bytes(enc, 0), Bench.bytes(0, enc), Bench.bytes(enc[3] & 255)}) {
            int four = sealed(x, 2, five);
            fault(x, "5 of " + five.length, Bench.map(1, 1, 2, 3, 3, Bench.four(own), 4, Bench.four(four), 5, five), 55);
        }
    }

    @Sentence("A NEW PIN (promise 12): any bytes may be a PIN, and PIN is the HASH of these")
    static void anyBytes() {
        PasskeyHouse x = Bench.house();
        byte[] pin = Bench.bytes(0, 255, 128, 0);
        Bench.due("set", Bench.send(x, 0, 6, set(x, meet(x), pin)), 0);
        Bench.holds("PIN", Bench.isRecord(x, 0, 0, 12, 2, Bench.four(sealed(x, 0, pin))));
        Bench.lay(x, pin);
        x.pin(2, 4);
        Bench.due("it opens", x.unlock(2, 0), 0);
    }

    // ---- 4 and 5

    @Sentence("PIN 4 and 5 (promise 12): no PIN: 53, before all that comes then")
    static void noPin() {
        PasskeyHouse x = Bench.house();
        int own = meet(x);
        fault(x, "4", change(x, own, "5678", "1234"), 53);
        fault(x, "4, a wrong proof", Bench.with(change(x, own, "5678", "1234"), 4, Bench.four(1)), 53);
        fault(x, "5", ask(x, own, "1234"), 53);
        Bench.due("no try is taken", x.told(0, 9), 8);
    }

    /** A key with no tries left, of which three were wrong since power. */
    private static PasskeyHouse withoutTries() {
        PasskeyHouse x = withPin();
        int[] due = {49, 49, 49, 49, 52, 49, 49, 50};
        for (int i = 0; i < due.length; i++) {
            if (i == 2 || i == 5) {
                Bench.powerOver(x);
            }
            Bench.due("wrong " + i, x.unlock(1, 0), due[i]);
            Bench.due("tries", x.told(0, 9), 7 - i);
        }
        return x;
    }

    @Sentence("PIN 4 and 5 (promise 12): no tries left: 50, before 52 and 51")
    static void noTriesLeft() {
        PasskeyHouse x = withoutTries();
        int own = meet(x);
        fault(x, "three wrong and no tries left, 5", ask(x, own, "1234"), 50);
        fault(x, "4", change(x, own, "5678", "1234"), 50);
        fault(x, "4, a wrong proof", Bench.with(change(x, own, "5678", "1234"), 4, Bench.four(1)), 50);
        Bench.powerOver(x);
        own = meet(x);
        fault(x, "with power", ask(x, own, "1234"), 50);
        fault(x, "with power, 4", change(x, own, "5678", "1234"), 50);
        fault(x, "3: there is a PIN still", set(x, own, "5678"), 51);
        Bench.due("tries", x.told(0, 9), 0);
        Bench.powerOver(x);
        x.press(0);
        Bench.due("RESET", Bench.send(x, 0, 7), 0);
        Bench.due("tries", x.told(0, 9), 8);
        Bench.due("a new PIN", Bench.send(x, 0, 6, set(x, meet(x), "5678")), 0);
    }

    @Sentence("PIN 4 and 5 (promise 12): three wrong SINCE POWER: 52, before 51")
    static void threeWrong() {
        PasskeyHouse x = withPin();
        Bench.due("first", x.unlock(1, 0), 49);
        Bench.due("second", x.unlock(1, 0), 49);
        Bench.due("third", x.unlock(1, 0), 52);
        int own = meet(x);
        fault(x, "5, the right PIN", ask(x, own, "1234"), 52);
        fault(x, "4, the right PIN", change(x, own, "5678", "1234"), 52);
        fault(x, "4, a wrong proof", Bench.with(change(x, own, "5678", "1234"), 4, Bench.four(1)), 52);
        Bench.due("tries stay", x.told(0, 9), 5);
        Bench.powerOver(x);
        Bench.due("with power", Bench.unlock(x, 2, 0, "1234"), 0);
        Bench.due("tries", x.told(0, 9), 8);
    }

    @Sentence("PIN 4 (promise 12): 4 is not the MAC of THE KEY and 5 and 6: 51, and no TRY")
    static void changeProof() {
        PasskeyHouse x = withPin();
        int own = meet(x);
        Bench.Pairs good = change(x, own, "5678", "1234");
        byte[] five = (byte[]) good.parts()[9];
        byte[] six = (byte[]) good.parts()[11];
        byte[][] wrong = {Bench.four(sealed(x, 2, five)), Bench.four(sealed(x, 2, six, five)), Bench.four(sealed(x, 2, six)),
            Bench.four(sealed(x, 2, five, six, 0)), Bench.four(0), Bench.bytes(), Bench.bytes((byte[]) good.parts()[7], 0)};
        for (byte[] four : wrong) {
            fault(x, "4 is another", Bench.with(good, 4, four), 51);
        }
        Bench.due("tries", x.told(0, 9), 8);
        Bench.due("none was wrong", x.unlock(1, 0), 49);
        fault(x, "the secret to agree with is another now", good, 51);
        Bench.Pairs other = change(x, meet(x), "5678", "1234");
        Bench.due("it, and 7 is passed over", Bench.send(x, 0, 6, Bench.more(other, 7, Bench.bytes("abc"))), 0);
    }

    @Sentence("A TRY (promise 12): TRIES, one less, is written")
    static void tryIsWritten() {
        PasskeyHouse x = withPin();
        int own = meet(x);
        Bench.Pairs map = ask(x, own, "1234");
        for (int acts = 0; acts <= 10; acts++) {
            PasskeyHouse y = withPin();
            Bench.Pairs good = ask(y, meet(y), "1234");
            y.cut(0, acts);
            Bench.due("with " + acts, Bench.send(y, 0, 6, good), acts < 10 ? -3 : 0);
            y.cut(0, -1);
            y.power(0, true);
            Bench.due("tries with " + acts, y.told(0, 9), acts < 5 || acts == 10 ? 8 : 7);
        }
        int acts = x.told(0, 1);
        Bench.due("right", Bench.send(x, 0, 6, map), 0);
        Bench.due("TRIES 7 and 8", x.told(0, 1), acts + 10);
        int end = x.told(0, 7);
        Bench.holds("TRIES 7", Bench.isRecord(x, 0, 0, end - 10, 3, Bench.bytes(7)));
        Bench.holds("TRIES 8", Bench.isRecord(x, 0, 0, end - 5, 3, Bench.bytes(8)));
        Bench.due("wrong", x.unlock(1, 0), 49);
        Bench.due("TRIES 7", x.told(0, 1), acts + 15);
    }

    @Sentence("A TRY (promise 12): If 6 is the ENC of THE KEY and the PIN (its four bytes)")
    static void rightOnes() {
        PasskeyHouse x = withPin();
        int hash = sealed(x, 0, "1234");
        int own = meet(x);
        Object[][] wrong = {{"1234"}, {Bench.four(hash), 0}, {0, Bench.four(hash)}, {Bench.bytes(hash)}, {}, {Bench.four(0)}};
        for (Object[] parts : wrong) {
            Bench.powerOver(x);
            own = meet(x);
            int six = sealed(x, 1, parts);
            Bench.due("6 is another", Bench.send(x, 0, 6, Bench.map(1, 1, 2, 5, 3, Bench.four(own), 6, Bench.four(six))), 49);
        }
        own = meet(x);
        byte[] six = Bench.four(sealed(x, 1, Bench.four(hash)));
        Bench.due("6 of five bytes", Bench.send(x, 0, 6, Bench.map(1, 1, 2, 5, 3, Bench.four(own), 6, Bench.bytes(six, 0))), 49);
        Bench.due("one try is left", x.told(0, 9), 1);
        Bench.powerOver(x);
        own = meet(x);
        six = Bench.four(sealed(x, 1, Bench.four(hash)));
        Bench.due("it, with the last try", Bench.send(x, 0, 6, Bench.map(1, 1, 2, 5, 3, Bench.four(own), 6, six)), 0);
        Bench.due("8 are left", x.told(0, 9), 8);
    }

    @Sentence("A TRY (promise 12): a right one: there are no wrong ones SINCE POWER")
    static void rightEndsWrong() {
        PasskeyHouse x = withPin();
        for (int round = 0; round < 3; round++) {
            Bench.due("wrong", x.unlock(1, 0), 49);
            Bench.due("wrong", x.unlock(1, 0), 49);
            Bench.due("right", Bench.unlock(x, 2, 0, "1234"), 0);
        }
        Bench.due("wrong", x.unlock(1, 0), 49);
        Bench.due("wrong", x.unlock(1, 0), 49);
        Bench.due("a right one, a PIN that is too short", Bench.send(x, 0, 6, change(x, meet(x), "1", "1234")), 55);
        Bench.due("tries", x.told(0, 9), 8);
        Bench.due("wrong", x.unlock(1, 0), 49);
        Bench.due("wrong", x.unlock(1, 0), 49);
        Bench.due("the third", x.unlock(1, 0), 52);
    }

    @Sentence("A TRY (promise 12): a wrong one: 50 if no tries are left, before 52 if it was the third one SINCE POWER")
    static void lastAndThird() {
        Bench.due("the last one is the third one too", withoutTries().told(0, 9), 0);
        PasskeyHouse y = withPin();
        int[] others = {49, 49, 52, 49, 49, 52, 49, 50};
        for (int i = 0; i < others.length; i++) {
            Bench.due("wrong " + i, y.unlock(1, 0), others[i]);
            if (others[i] == 52) {
                Bench.powerOver(y);
            }
        }
    }

    @Sentence("A TRY (promise 12): a wrong one: a new secret to agree with, so that what was agreed is good no more")
    static void wrongNewSecret() {
        PasskeyHouse x = withPin();
        int own = meet(x);
        Bench.Pairs right = ask(x, own, "1234");
        Bench.Pairs wrong = ask(x, own, "4321");
        Bench.due("right", Bench.send(x, 0, 6, right), 0);
        Bench.due("right again", Bench.send(x, 0, 6, right), 0);
        Bench.due("wrong", Bench.send(x, 0, 6, wrong), 49);
        Bench.due("what was right", Bench.send(x, 0, 6, right), 49);
        Bench.due("tries", x.told(0, 9), 6);
    }

    @Sentence("PIN 5 (promise 12): answer 2 SENT of THE KEY and THE TOKEN")
    static void sent() {
        PasskeyHouse x = withPin();
        int own = meet(x);
        Bench.Pairs map = ask(x, own, "1234");
        int terms = x.terms();
        Bench.due("ask", Bench.send(x, 0, 6, map), 0);
        Bench.due("one term", x.terms(), terms + 1);
        Bench.due("SENT", x.sort(terms + 1), 9);
        Bench.holds("its answer", Bench.answers(x, 0, 0, Bench.map(2, Bench.four(terms + 1))));
        Bench.due("again", Bench.send(x, 0, 6, map), 0);
        Bench.holds("the same", Bench.answers(x, 0, 0, Bench.map(2, Bench.four(terms + 1))));
        Bench.due("a hand takes it", x.token(HAND, terms + 1), true);
    }
}
