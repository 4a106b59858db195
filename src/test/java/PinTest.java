/** Promise 12, PIN: faults, tries, new PINs, the token; all by hand, without clients. */
public final class PinTest {

    private static final int HAND = 0;

    public static void main(String[] args) {
        faults();
        setting();
        changing();
        token();
        tries();
        power();
        Bench.end();
    }

    private static void status(PasskeyHouse x, String what, Bench.Pairs map, int want) {
        int acts = x.told(0, 1);
        Bench.due(what, Bench.send(x, 0, 6, map), want);
        Bench.due(what + ": acts", x.told(0, 1), acts);
        Bench.holds(what + ": the status alone", want == 0 || Bench.answers(x, 0, want));
    }

    /** A hand agrees with the key; its own PUBLIC. */
    private static int meet(PasskeyHouse x) {
        int own = x.own(HAND);
        Bench.due("ask", Bench.send(x, 0, 6, Bench.map(1, 1, 2, 2)), 0);
        Bench.due("agree", x.agree(HAND, Bench.answerFour(x, 0, 4)), true);
        return own;
    }

    private static int enc(PasskeyHouse x, Object... parts) {
        Bench.lay(x, parts);
        return x.seal(HAND, 1, -1);
    }

    private static int mac(PasskeyHouse x, Object... parts) {
        Bench.lay(x, parts);
        return x.seal(HAND, 2, -1);
    }

    private static int hash(PasskeyHouse x, Object... parts) {
        Bench.lay(x, parts);
        return x.seal(HAND, 0, -1);
    }

    /** ENC by another hand, of what it agreed with hand 3. */
    private static int elsewhere(PasskeyHouse x, Object... parts) {
        x.own(2);
        x.agree(2, x.own(3));
        Bench.lay(x, parts);
        return x.seal(2, 1, -1);
    }

    private static Bench.Pairs set(PasskeyHouse x, int own, Object pin) {
        int five = enc(x, pin);
        int four = mac(x, Bench.four(five));
        return Bench.map(1, 1, 2, 3, 3, Bench.four(own), 4, Bench.four(four), 5, Bench.four(five));
    }

    private static Bench.Pairs change(PasskeyHouse x, int own, Object pin, Object old) {
        int five = enc(x, pin);
        int six = enc(x, Bench.four(hash(x, old)));
        int four = mac(x, Bench.four(five), Bench.four(six));
        return Bench.map(1, 1, 2, 4, 3, Bench.four(own), 4, Bench.four(four), 5, Bench.four(five), 6, Bench.four(six));
    }

    private static Bench.Pairs ask(PasskeyHouse x, int own, Object pin) {
        int six = enc(x, Bench.four(hash(x, pin)));
        return Bench.map(1, 1, 2, 5, 3, Bench.four(own), 6, Bench.four(six));
    }

    private static void faults() {
        PasskeyHouse x = Bench.house();
        byte[] some = Bench.four(1);
        status(x, "1 a text", Bench.map(1, "1", 2, 1), 17);
        status(x, "2 negative", Bench.map(1, 1, 2, -1), 17);
        status(x, "1 negative", Bench.map(1, -1, 2, 1), 17);
        for (int i = 3; i <= 6; i++) {
            status(x, i + " a text", Bench.map(1, 1, 2, 1, i, "abcd"), 17);
        }
        status(x, "17 before 20", Bench.map(3, 1), 17);
        status(x, "no 1", Bench.map(2, 1), 20);
        status(x, "no 2", Bench.map(1, 1), 20);
        status(x, "20 before 2", Bench.map(1, 2), 20);
        status(x, "1 is 0", Bench.map(1, 0, 2, 1), 2);
        status(x, "1 is 2", Bench.map(1, 2, 2, 1), 2);
        status(x, "2 is 0", Bench.map(1, 1, 2, 0), 2);
        status(x, "2 is 6", Bench.map(1, 1, 2, 6), 2);
        status(x, "tries", Bench.map(1, 1, 2, 1, 3, Bench.bytes(), 7, "x"), 0);
        Bench.holds("8", Bench.answers(x, 0, 0, Bench.map(3, 8)));
        int own = x.own(HAND);
        byte[] pub = Bench.four(own);
        int[][] wanted = {{3, 4, 5}, {3, 4, 5, 6}, {3, 6}};
        for (int step = 3; step <= 5; step++) {
            for (int without : wanted[step - 3]) {
                Bench.Pairs map = Bench.map(1, 1, 2, step);
                for (int i : wanted[step - 3]) {
                    map = i == without ? map : Bench.more(map, i, i == 3 ? pub : some);
                }
                status(x, step + " without " + without, map, 20);
            }
        }
        status(x, "20 before 2 of 3", Bench.map(1, 1, 2, 3, 3, some, 4, some), 20);
        status(x, "3 no PUBLIC", Bench.map(1, 1, 2, 3, 3, some, 4, some, 5, some), 2);
        status(x, "3 no term", Bench.map(1, 1, 2, 4, 3, Bench.four(0), 4, some, 5, some, 6, some), 2);
        status(x, "3 of five bytes", Bench.map(1, 1, 2, 5, 3, Bench.bytes(pub, 0), 6, some), 2);
        status(x, "3 of none", Bench.map(1, 1, 2, 5, 3, Bench.bytes(), 6, some), 2);
        status(x, "no PIN for 4", Bench.map(1, 1, 2, 4, 3, pub, 4, some, 5, some, 6, some), 53);
        status(x, "no PIN for 5", Bench.map(1, 1, 2, 5, 3, pub, 6, some), 53);
        PasskeyHouse y = new PasskeyHouse();
        y.own(HAND);
        y.key();
        status(y, "3 of three bytes, term 1 a PUBLIC", Bench.map(1, 1, 2, 3, 3, Bench.bytes("abc"), 4, some, 5, some), 2);
        int terms = x.terms();
        status(x, "nothing agreed", Bench.map(1, 1, 2, 3, 3, pub, 4, some, 5, some), 51);
        Bench.due("no term is made", x.terms(), terms);
    }

    private static void setting() {
        PasskeyHouse x = Bench.house();
        int own = meet(x);
        Bench.Pairs good = set(x, own, "1234");
        status(x, "4 is another", Bench.with(good, 4, Bench.four(own)), 51);
        status(x, "4 of five bytes", Bench.with(good, 4, Bench.bytes(Bench.four(x.terms()), 0)), 51);
        status(x, "5 is another", Bench.with(good, 5, Bench.four(own)), 51);
        status(x, "another's PUBLIC", Bench.with(good, 3, Bench.four(x.own(1))), 51);
        status(x, "three bytes", set(x, own, "123"), 55);
        status(x, "thirteen bytes", set(x, own, "1234567890123"), 55);
        int free = mac(x, "xyz");
        status(x, "5 is no term", Bench.map(1, 1, 2, 3, 3, Bench.four(own), 4, Bench.four(free), 5, Bench.bytes("xyz")), 55);
        int no = hash(x, "1234");
        free = mac(x, Bench.four(no));
        status(x, "5 is no ENC", Bench.map(1, 1, 2, 3, 3, Bench.four(own), 4, Bench.four(free), 5, Bench.four(no)), 55);
        no = mac(x, "12345");
        free = mac(x, Bench.four(no));
        status(x, "5 is a MAC", Bench.map(1, 1, 2, 3, 3, Bench.four(own), 4, Bench.four(free), 5, Bench.four(no)), 55);
        no = elsewhere(x, "12345");
        free = mac(x, Bench.four(no));
        status(x, "5 is ENC of another key", Bench.map(1, 1, 2, 3, 3, Bench.four(own), 4, Bench.four(free), 5, Bench.four(no)), 55);
        status(x, "5 of which no MAC is made", Bench.with(Bench.with(good, 5, Bench.bytes("?")), 4, Bench.four(0)), 51);
        Bench.due("no PIN yet", x.told(0, 10), 0);
        int terms = x.terms();
        Bench.due("set, with a member 6 that is passed over", Bench.send(x, 0, 6, Bench.more(good, 6, Bench.four(1))), 0);
        Bench.holds("0 alone", Bench.answers(x, 0, 0));
        Bench.due("HASH was there", x.terms(), terms);
        Bench.holds("PIN", Bench.isRecord(x, 0, 0, 12, 2, Bench.four(hash(x, "1234"))));
        Bench.due("acts", x.told(0, 1), 8);
        Bench.due("there is a PIN", x.told(0, 10), 1);
        status(x, "a second time", good, 51);
        for (String pin : new String[] {"abcd", "123456789012"}) {
            PasskeyHouse y = Bench.house();
            Bench.Pairs map = set(y, meet(y), pin);
            terms = y.terms();
            Bench.due("set", Bench.send(y, 0, 6, map), 0);
            Bench.due("HASH is made", y.sort(terms + 1), 7);
            Bench.due("no other", y.terms(), terms + 1);
        }
    }

    private static void changing() {
        PasskeyHouse x = Bench.house();
        Bench.due("set", Bench.send(x, 0, 6, set(x, meet(x), "1234")), 0);
        int own = meet(x);
        Bench.Pairs good = change(x, own, "56789", "1234");
        status(x, "4 is another", Bench.with(good, 4, Bench.four(1)), 51);
        int five = enc(x, "56789");
        int six = enc(x, Bench.four(hash(x, "1234")));
        int swapped = mac(x, Bench.four(six), Bench.four(five));
        status(x, "4 of 6 and 5", Bench.with(good, 4, Bench.four(swapped)), 51);
        int first = mac(x, Bench.four(five));
        status(x, "4 of 5 alone", Bench.with(good, 4, Bench.four(first)), 51);
        int acts = x.told(0, 1);
        Bench.due("change", Bench.send(x, 0, 6, Bench.more(good, 7, Bench.four(1))), 0);
        Bench.holds("0 alone", Bench.answers(x, 0, 0));
        Bench.due("TRIES twice and PIN", x.told(0, 1), acts + 5 + 5 + 8);
        int end = x.told(0, 7);
        Bench.holds("TRIES 7", Bench.isRecord(x, 0, 0, end - 18, 3, Bench.bytes(7)));
        Bench.holds("TRIES 8", Bench.isRecord(x, 0, 0, end - 13, 3, Bench.bytes(8)));
        Bench.holds("PIN", Bench.isRecord(x, 0, 0, end - 8, 2, Bench.four(hash(x, "56789"))));
        Bench.due("the old one", Bench.send(x, 0, 6, change(x, own, "9999", "1234")), 49);
        Bench.due("tries", x.told(0, 9), 7);
        Bench.due("the secret is another", Bench.send(x, 0, 6, change(x, own, "9999", "56789")), 51);
        Bench.due("no try", x.told(0, 9), 7);
        own = meet(x);
        Bench.due("short, the right old one", Bench.send(x, 0, 6, change(x, own, "999", "56789")), 55);
        Bench.due("tries are 8", x.told(0, 9), 8);
        Bench.due("the PIN stays", Bench.send(x, 0, 6, change(x, own, "9999", "56789")), 0);
        Bench.due("short, a wrong old one", Bench.send(x, 0, 6, change(x, own, "999", "56789")), 49);
        own = meet(x);
        Bench.due("the new one", Bench.send(x, 0, 6, ask(x, own, "9999")), 0);
    }

    private static void token() {
        PasskeyHouse x = Bench.house();
        Bench.due("set", Bench.send(x, 0, 6, set(x, meet(x), "1234")), 0);
        int own = meet(x);
        Bench.Pairs map = ask(x, own, "1234");
        int terms = x.terms();
        int acts = x.told(0, 1);
        Bench.due("ask", Bench.send(x, 0, 6, map), 0);
        Bench.due("SENT", x.sort(terms + 1), 9);
        Bench.due("no other", x.terms(), terms + 1);
        Bench.holds("its answer", Bench.answers(x, 0, 0, Bench.map(2, Bench.four(terms + 1))));
        Bench.due("TRIES twice", x.told(0, 1), acts + 10);
        Bench.due("again", Bench.send(x, 0, 6, map), 0);
        Bench.holds("the same", Bench.answers(x, 0, 0, Bench.map(2, Bench.four(terms + 1))));
        Bench.due("take it", x.token(HAND, terms + 1), true);
        Bench.due("4 and 5 are passed over", Bench.send(x, 0, 6,
            Bench.map(1, 1, 2, 5, 3, Bench.four(own), 4, Bench.bytes(), 5, Bench.bytes(), 6, map.parts()[7])), 0);
        Bench.due("6 of five bytes", Bench.send(x, 0, 6, Bench.with(map, 6, Bench.bytes(0, map.parts()[7]))), 49);
        own = meet(x);
        Bench.due("6 of the PIN itself", Bench.send(x, 0, 6,
            Bench.map(1, 1, 2, 5, 3, Bench.four(own), 6, Bench.four(enc(x, "1234")))), 49);
        own = meet(x);
        Bench.due("another's PUBLIC", Bench.send(x, 0, 6, Bench.with(ask(x, own, "1234"), 3, Bench.four(x.own(1)))), 52);
    }

    private static void tries() {
        PasskeyHouse x = Bench.house();
        Bench.due("set", Bench.send(x, 0, 6, set(x, meet(x), "1234")), 0);
        int[] due = {49, 49, 52, 49, 49, 52, 49, 50};
        for (int i = 0; i < due.length; i++) {
            Bench.due("wrong " + i, Bench.send(x, 0, 6, ask(x, meet(x), "4321")), due[i]);
            Bench.due("tries left", x.told(0, 9), 7 - i);
            if (due[i] == 52) {
                status(x, "three were wrong", ask(x, meet(x), "1234"), 52);
                status(x, "three were wrong, 4", change(x, meet(x), "5555", "1234"), 52);
                x.power(0, false);
                x.power(0, true);
            }
        }
        status(x, "no tries left", ask(x, meet(x), "1234"), 50);
        status(x, "no tries left, 4", change(x, meet(x), "5555", "1234"), 50);
        x.power(0, false);
        x.power(0, true);
        status(x, "none with power", ask(x, meet(x), "1234"), 50);
        status(x, "a PIN is there", set(x, meet(x), "1234"), 51);
        Bench.due("told", Bench.send(x, 0, 6, Bench.map(1, 1, 2, 1)), 0);
        Bench.holds("0", Bench.answers(x, 0, 0, Bench.map(3, 0)));
    }

    private static void power() {
        PasskeyHouse x = Bench.house();
        Bench.due("set", Bench.send(x, 0, 6, set(x, meet(x), "1234")), 0);
        Bench.due("wrong", Bench.send(x, 0, 6, ask(x, meet(x), "4321")), 49);
        Bench.due("wrong", Bench.send(x, 0, 6, ask(x, meet(x), "4321")), 49);
        Bench.due("right", Bench.send(x, 0, 6, ask(x, meet(x), "1234")), 0);
        Bench.due("wrong", Bench.send(x, 0, 6, ask(x, meet(x), "4321")), 49);
        Bench.due("wrong", Bench.send(x, 0, 6, ask(x, meet(x), "4321")), 49);
        Bench.due("tries", x.told(0, 9), 6);
        x.power(0, false);
        x.power(0, true);
        Bench.due("tries stay", x.told(0, 9), 6);
        Bench.due("none wrong since", Bench.send(x, 0, 6, ask(x, meet(x), "4321")), 49);
        Bench.due("tries", x.told(0, 9), 5);
        Bench.due("set anew", Bench.send(x, 0, 6, change(x, meet(x), "abcd", "1234")), 0);
        Bench.due("tries are 8", x.told(0, 9), 8);
        int acts = x.told(0, 1);
        Bench.Pairs map = ask(x, meet(x), "abcd");
        x.cut(0, 5);
        Bench.due("power fails behind the try", Bench.send(x, 0, 6, map), -3);
        Bench.due("five acts", x.told(0, 1), acts + 5);
        x.power(0, true);
        Bench.due("the try counts", x.told(0, 9), 7);
        map = ask(x, meet(x), "wrong");
        x.cut(0, 0);
        Bench.due("power fails before the try", Bench.send(x, 0, 6, map), -3);
        x.power(0, true);
        Bench.due("it does not count", x.told(0, 9), 7);
    }
}
