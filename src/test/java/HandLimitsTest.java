/** Promises 18 to 24, == HANDS: the boundary cases of what hands have, make and open. */
public final class HandLimitsTest {

    private static final int LEAST = Integer.MIN_VALUE;
    private static final int MOST = Integer.MAX_VALUE;
    private static final int[] NO_HANDS = {4, 5, -1, -2, LEAST, MOST};

    public static void main(String[] args) {
        Bench.run(HandLimitsTest.class);
    }

    /** The last term of a sort in a house. */
    private static int lastOf(PasskeyHouse x, int sort) {
        int t = x.terms();
        while (t > 0 && x.sort(t) != sort) {
            t--;
        }
        return t;
    }

    // ---- at first

    @Sentence("HANDS (promises 18 to 29): hands 0 .. 3 have none at first: no secret, nothing AGREED, no token")
    static void nothingAtFirst() {
        PasskeyHouse x = new PasskeyHouse();
        int other = x.own(0);
        for (int hand = 1; hand < 4; hand++) {
            Bench.due("no secret to agree", x.agree(hand, other), false);
            for (int what = 1; what <= 4; what++) {
                Bench.due("nothing to seal with", x.seal(hand, what, 0), -1);
            }
            Bench.due("HASH needs nothing", x.seal(hand, 0, 0), 2);
            Bench.due("nothing to open", x.open(hand, 1), -1);
            Bench.due("no token", x.token(hand, 1), false);
        }
    }

    @Sentence("HANDS (promises 23 to 29): a PIN that is typed and a PAGE: none at first")
    static void noPinAndPageAtFirst() {
        PasskeyHouse x = new PasskeyHouse();
        x.key();
        Bench.lay(x, "a");
        for (int hand = 0; hand < 4; hand++) {
            Bench.due("no PIN is too short", x.setPin(hand, 0), 55);
            Bench.due("no name is right for no page", x.get(hand, 0, 1, -1, 1, 1, 1, 0), -2);
            Bench.due("nor for create", x.create(hand, 0, 1, -1, 1, 1, 1, 0), -2);
        }
    }

    // ---- Promise 18: own

    @Sentence("Promise 18: A hand has a new secret: the PUBLIC of it")
    static void newSecrets() {
        PasskeyHouse x = new PasskeyHouse();
        for (int i = 1; i <= 8; i++) {
            Bench.due("own", x.own(i % 4), i);
            Bench.due("PUBLIC", x.sort(i), 2);
        }
    }

    @Sentence("Promise 18: nothing AGREED then, and no token")
    static void ownDropsAll() {
        PasskeyHouse x = Twins.furnished();
        int enc = lastOf(x, 4);
        int sent = lastOf(x, 9);
        Bench.due("a token", x.seal(0, 3, 0) > 0, true);
        Bench.due("it is of what was agreed", x.token(0, sent), true);
        Bench.due("own", x.sort(x.own(0)), 2);
        for (int what = 1; what <= 3; what++) {
            Bench.due("nothing to seal with", x.seal(0, what, 0), -1);
        }
        Bench.due("SIGN by the new one", x.seal(0, 4, 0) > 0, true);
        Bench.due("nothing to open", x.open(0, enc), -1);
        Bench.due("no token by what was sent", x.token(0, sent), false);
        Bench.due("the other hand has its own still", x.seal(1, 1, 0) > 0, true);
    }

    @Sentence("Promise 18: NONE: there is no such hand")
    static void ownOfNoHand() {
        for (int hand : NO_HANDS) {
            Twins.refused(Twins::furnished, "own of hand " + hand, x -> x.own(hand));
        }
    }

    // ---- Promise 19: agree

    @Sentence("Promise 19: A hand's key is AGREED of its secret and that of a PUBLIC: of any, its own too")
    static void agreeing() {
        PasskeyHouse x = new PasskeyHouse();
        x.key();
        int own = x.own(3);
        Bench.due("its own", x.agree(3, own), true);
        Bench.due("AGREED", x.sort(3), 3);
        Bench.due("ENC", x.seal(3, 1, 0), 4);
        Bench.due("of a key", Bench.send(x, 0, 6, Bench.map(1, 1, 2, 2)), 0);
        Bench.due("agree", x.agree(3, Bench.answerFour(x, 0, 4)), true);
        Bench.due("another key AGREED", x.seal(3, 1, 0) > 4, true);
        Bench.due("not to be opened by it", x.open(3, 4), -1);
        Bench.due("its own again", x.agree(3, own), true);
        Bench.due("the same ENC", x.seal(3, 1, 0), 4);
    }

    @Sentence("Promise 19: False: there is no such hand")
    static void agreeOfNoHand() {
        for (int hand : NO_HANDS) {
            Twins.denied(Twins::furnished, "agree of hand " + hand, x -> x.agree(hand, lastOf(x, 2)));
        }
    }

    @Sentence("Promise 19: False: it has no secret")
    static void agreeWithoutSecret() {
        Twins.denied(Twins::furnished, "agree of hand 3", x -> x.agree(3, lastOf(x, 2)));
    }

    @Sentence("Promise 19: False: or the term is no PUBLIC")
    static void agreeWithNoPublic() {
        for (int sort : new int[] {1, 3, 4, 5, 6, 7, 8, 9, 10}) {
            Twins.denied(Twins::furnished, "agree with a term of sort " + sort, x -> x.agree(0, lastOf(x, sort)));
        }
        Twins.denied(Twins::furnished, "agree with no term", x -> x.agree(0, 0), x -> x.agree(0, -1), x -> x.agree(1, x.terms() + 1),
            x -> x.agree(2, LEAST), x -> x.agree(2, MOST));
    }

    // ---- Promise 20: seal

    @Sentence("Promise 20: A term of the first n bytes of the tape (all, if n is NONE), of 0 to 400")
    static void sealedBytes() {
        PasskeyHouse x = new PasskeyHouse();
        Bench.due("none of an empty tape", x.seal(0, 0, 0), 1);
        Bench.due("all of an empty tape", x.seal(0, 0, -1), 1);
        Bench.lay(x, Bench.text(400));
        Bench.due("none", x.seal(0, 0, 0), 1);
        Bench.due("one", x.seal(0, 0, 1), 2);
        Bench.due("399", x.seal(0, 0, 399), 3);
        Bench.due("400", x.seal(0, 0, 400), 4);
        Bench.due("all", x.seal(0, 0, -1), 4);
        x.own(0);
        x.agree(0, x.own(1));
        for (int what : new int[] {1, 2, 4}) {
            int whole = x.seal(0, what, -1);
            Bench.due("all of 400", x.seal(0, what, 400), whole);
            Bench.due("another of 399", x.seal(0, what, 399), whole + 1);
        }
        Bench.due("open", x.open(0, lastOf(x, 4) - 1), 400);
    }

    @Sentence("Promise 20: the tape stays")
    static void sealKeepsTape() {
        PasskeyHouse x = Twins.furnished();
        for (int what = 0; what <= 4; what++) {
            x.seal(0, what, 2);
        }
        Bench.holds("the tape", Bench.tapeIs(x, "a.exwww.a.exa.ex"));
    }

    @Sentence("Promise 20: NONE: there is no such hand")
    static void sealOfNoHand() {
        for (int hand : NO_HANDS) {
            Twins.refused(Twins::furnished, "seal of hand " + hand, x -> x.seal(hand, 0, 0), x -> x.seal(hand, 4, -1));
        }
    }

    @Sentence("Promise 20: NONE: it has not that")
    static void sealWithoutThat() {
        Twins.refused(Twins::furnished, "hand 3 has nothing", x -> x.seal(3, 1, 0), x -> x.seal(3, 2, 0), x -> x.seal(3, 3, 0),
            x -> x.seal(3, 4, 0));
        Twins.refused(Twins::furnished, "hand 2 has a secret alone", x -> x.seal(2, 1, -1), x -> x.seal(2, 2, -1), x -> x.seal(2, 3, -1));
        Twins.refused(Twins::furnished, "hand 1 has no token", x -> x.seal(1, 3, 4));
    }

    @Sentence("Promise 20: NONE: there are not so many bytes")
    static void sealOfNoBytes() {
        for (int what = 0; what <= 4; what++) {
            int w = what;
            Twins.refused(Twins::furnished, "seal " + what, x -> x.seal(0, w, 17), x -> x.seal(0, w, -2), x -> x.seal(0, w, 401),
                x -> x.seal(0, w, LEAST), x -> x.seal(0, w, MOST));
        }
        Bench.due("just so many", Twins.furnished().seal(0, 0, 16) > 0, true);
    }

    @Sentence("Promise 20: NONE: or another what")
    static void sealOfOtherWhat() {
        Twins.refused(Twins::furnished, "seal", x -> x.seal(0, 5, 0), x -> x.seal(0, -1, 0), x -> x.seal(0, LEAST, 0),
            x -> x.seal(0, MOST, 0), x -> x.seal(0, 6, -1));
    }

    // ---- Promise 21: open

    @Sentence("Promise 21: The bytes of a term go onto the tape, in place of what was there: how many, of 0 to 400")
    static void opening() {
        for (int size : new int[] {0, 1, 399, 400}) {
            PasskeyHouse x = new PasskeyHouse();
            x.own(0);
            x.agree(0, x.own(1));
            Bench.lay(x, Bench.text(size));
            int enc = x.seal(0, 1, -1);
            Bench.lay(x, "other");
            Bench.due("open", x.open(0, enc), size);
            Bench.due("the last", x.at(size - 1), size == 0 ? -1 : 'n');
            Bench.due("no more", x.at(size), -1);
            Bench.due("sealed again it is the same", x.seal(0, 1, -1), enc);
        }
    }

    @Sentence("Promise 21: NONE: it is none: no ENC")
    static void openOfNoEnc() {
        for (int sort : new int[] {1, 2, 3, 5, 6, 7, 8, 9, 10}) {
            Twins.refused(Twins::furnished, "open of a term of sort " + sort, x -> x.open(0, lastOf(x, sort)), x -> x.open(1, lastOf(x, sort)));
        }
        Twins.refused(Twins::furnished, "open of no term", x -> x.open(0, 0), x -> x.open(0, -1), x -> x.open(1, x.terms() + 1),
            x -> x.open(0, LEAST), x -> x.open(0, MOST));
    }

    @Sentence("Promise 21: NONE: it is none: ENC of what another AGREED, or nothing AGREED")
    static void openOfOthers() {
        Twins.refused(Twins::furnished, "open", x -> x.open(0, lastOf(x, 4)), x -> x.open(2, lastOf(x, 4)), x -> x.open(3, lastOf(x, 4)));
        PasskeyHouse y = Twins.furnished();
        Bench.due("hand 1 opens it", y.open(1, lastOf(y, 4)), 5);
    }

    @Sentence("Promise 21: NONE: there is no such hand")
    static void openOfNoHand() {
        for (int hand : NO_HANDS) {
            Twins.refused(Twins::furnished, "open of hand " + hand, x -> x.open(hand, lastOf(x, 4)));
        }
    }

    // ---- Promise 22: token

    @Sentence("Promise 22: A hand's token is that of a term that is SENT of what it AGREED")
    static void tokens() {
        PasskeyHouse x = new PasskeyHouse();
        x.key();
        Bench.setPin(x, 0, 0, "1234");
        int own = x.own(1);
        Bench.due("ask", Bench.send(x, 0, 6, Bench.map(1, 1, 2, 2)), 0);
        int key = Bench.answerFour(x, 0, 4);
        Bench.due("agree", x.agree(1, key), true);
        Bench.lay(x, "1234");
        int hash = x.seal(1, 0, -1);
        Bench.lay(x, Bench.four(hash));
        int six = x.seal(1, 1, -1);
        Bench.due("ask", Bench.send(x, 0, 6, Bench.map(1, 1, 2, 5, 3, Bench.four(own), 6, Bench.four(six))), 0);
        int sent = Bench.answerFour(x, 0, 4);
        Bench.due("no token yet", x.seal(1, 3, 0), -1);
        Bench.due("token", x.token(1, sent), true);
        int mark = x.seal(1, 3, 0);
        Bench.due("MARK", x.sort(mark), 10);
        Bench.due("again", x.token(1, sent), true);
        Bench.due("the same", x.seal(1, 3, 0), mark);
    }

    @Sentence("Promise 22: False: there is no such hand")
    static void tokenOfNoHand() {
        for (int hand : NO_HANDS) {
            Twins.denied(Twins::furnished, "token of hand " + hand, x -> x.token(hand, lastOf(x, 9)));
        }
    }

    @Sentence("Promise 22: False: or it is none: no SENT, or of what another AGREED")
    static void tokenOfNone() {
        for (int sort : new int[] {1, 2, 3, 4, 5, 6, 7, 8, 10}) {
            Twins.denied(Twins::furnished, "token of a term of sort " + sort, x -> x.token(0, lastOf(x, sort)), x -> x.token(1, lastOf(x, sort)));
        }
        Twins.denied(Twins::furnished, "token of no term", x -> x.token(0, 0), x -> x.token(0, -1), x -> x.token(0, x.terms() + 1),
            x -> x.token(0, LEAST), x -> x.token(0, MOST));
        Twins.denied(Twins::furnished, "token of another hand's", x -> x.token(1, lastOf(x, 9)), x -> x.token(2, lastOf(x, 9)),
            x -> x.token(3, lastOf(x, 9)));
    }

    // ---- Promise 23: pin

    @Sentence("Promise 23: The first n bytes of the tape are the PIN that is typed, 0 .. 12")
    static void typing() {
        for (int n = 0; n <= 12; n++) {
            PasskeyHouse x = new PasskeyHouse();
            x.key();
            Bench.lay(x, "123456789012345");
            Bench.due("pin " + n, x.pin(3, n), true);
            Bench.due("setPin", x.setPin(3, 0), n < 4 ? 55 : 0);
            Bench.holds("the tape stays", Bench.tapeIs(x, "123456789012345"));
            if (n >= 4) {
                Bench.due("so many bytes", Bench.unlock(x, 0, 0, "123456789012".substring(0, n)), 0);
            }
        }
        PasskeyHouse y = new PasskeyHouse();
        Bench.due("none of an empty tape", y.pin(0, 0), true);
    }

    @Sentence("Promise 23: the PIN that is typed is in place of the one before, a shorter one too")
    static void typingAgain() {
        PasskeyHouse x = new PasskeyHouse();
        x.key();
        Bench.lay(x, "123456789012");
        x.pin(0, 12);
        x.pin(0, 5);
        Bench.due("setPin", x.setPin(0, 0), 0);
        Bench.due("the shorter one", Bench.unlock(x, 1, 0, "12345"), 0);
        Bench.due("not of another hand", x.unlock(2, 0), 49);
    }

    @Sentence("Promise 23: False: there is no such hand")
    static void pinOfNoHand() {
        for (int hand : NO_HANDS) {
            Twins.denied(Twins::furnished, "pin of hand " + hand, x -> x.pin(hand, 4), x -> x.pin(hand, 0));
        }
    }

    @Sentence("Promise 23: False: n is not 0 .. 12")
    static void pinOfOtherN() {
        Twins.denied(Twins.taped(Bench.text(40)), "pin", x -> x.pin(0, 13), x -> x.pin(0, -1), x -> x.pin(0, 14), x -> x.pin(0, LEAST),
            x -> x.pin(0, MOST), x -> x.pin(3, 13), x -> x.pin(3, -1));
    }

    @Sentence("Promise 23: False: or there are not so many")
    static void pinOfNoBytes() {
        Twins.denied(Twins.taped("567"), "pin", x -> x.pin(0, 4), x -> x.pin(0, 12), x -> x.pin(3, 4));
        Twins.denied(Twins.taped(), "pin of an empty tape", x -> x.pin(0, 1), x -> x.pin(3, 4));
        Bench.due("just so many", Twins.taped("567").get().pin(0, 3), true);
    }

    // ---- Promise 24: page

    @Sentence("Promise 24: The first n bytes of the tape are the page of a hand, 0 .. 40")
    static void paging() {
        for (int n : new int[] {0, 1, 2, 24, 25, 26, 39, 40}) {
            PasskeyHouse x = new PasskeyHouse();
            x.key();
            String page = "x".repeat(n < 3 ? 0 : n - 2) + (n < 3 ? "" : ".") + (n == 0 ? "" : n == 2 ? ".a" : "a");
            Bench.lay(x, page, "more");
            Bench.due("page " + n, x.page(2, n), true);
            Bench.holds("the tape stays", Bench.tapeIs(x, page, "more"));
            Bench.lay(x, "a");
            x.press(0);
            Bench.due("create", x.create(2, 0, 1, -1, 1, 1, 1, 0), n == 0 ? -2 : 0);
            if (n > 0) {
                Bench.due("its length", x.at(5), n);
                Bench.due("its last byte", x.at(5 + n), 'a');
            }
        }
    }

    @Sentence("Promise 24: the page is in place of the one before, a shorter one too")
    static void pagingAgain() {
        PasskeyHouse x = new PasskeyHouse();
        x.key();
        Bench.lay(x, "ab.ab");
        x.page(0, 5);
        x.page(0, 2);
        Bench.lay(x, "ab");
        x.press(0);
        Bench.due("create", x.create(0, 0, 1, -1, 1, 1, 2, 0), 0);
        Bench.due("two bytes", x.at(5), 2);
        Bench.due("not of another hand", x.create(1, 0, 1, -1, 1, 1, 2, 0), -2);
        x.page(0, 0);
        Bench.lay(x, "ab");
        Bench.due("no page then", x.create(0, 0, 1, -1, 1, 1, 2, 0), -2);
    }

    @Sentence("Promise 24: False: there is no such hand")
    static void pageOfNoHand() {
        for (int hand : NO_HANDS) {
            Twins.denied(Twins::furnished, "page of hand " + hand, x -> x.page(hand, 4), x -> x.page(hand, 0));
        }
    }

    @Sentence("Promise 24: False: n is not 0 .. 40")
    static void pageOfOtherN() {
        Twins.denied(Twins.taped(Bench.text(50)), "page", x -> x.page(0, 41), x -> x.page(0, -1), x -> x.page(0, 42), x -> x.page(0, LEAST),
            x -> x.page(0, MOST), x -> x.page(3, 41), x -> x.page(3, -1));
    }

    @Sentence("Promise 24: False: or there are not so many")
    static void pageOfNoBytes() {
        Twins.denied(Twins.taped("a.e"), "page", x -> x.page(0, 4), x -> x.page(0, 40), x -> x.page(3, 4));
        Twins.denied(Twins.taped(), "page of an empty tape", x -> x.page(0, 1), x -> x.page(3, 4));
        Bench.due("just so many", Twins.taped("a.e").get().page(0, 3), true);
    }
}
