/** Promises 18 to 24: what hands have, make and open. */
public final class HandTest {

    public static void main(String[] args) {
        owning();
        agreeing();
        sealing();
        opening();
        tokens();
        typing();
        Bench.end();
    }

    private static void owning() {
        PasskeyHouse x = new PasskeyHouse();
        Bench.due("own", x.own(0), 1);
        Bench.due("PUBLIC", x.sort(1), 2);
        Bench.due("another hand", x.own(3), 2);
        Bench.due("a new one", x.own(0), 3);
        Bench.due("hand 4", x.own(4), -1);
        Bench.due("hand -1", x.own(-1), -1);
        Bench.due("terms", x.terms(), 3);
        Bench.due("agree", x.agree(0, 2), true);
        Bench.due("AGREED", x.terms(), 4);
        Bench.due("ENC", x.seal(0, 1, 0), 5);
        x.own(0);
        Bench.due("nothing agreed then", x.seal(0, 1, 0), -1);
        Bench.due("nor MAC", x.seal(0, 2, 0), -1);
    }

    private static void agreeing() {
        PasskeyHouse x = new PasskeyHouse();
        int one = x.own(0);
        int other = x.own(1);
        Bench.due("hand without a secret", x.agree(2, one), false);
        Bench.due("no term", x.agree(0, 3), false);
        Bench.due("term 0", x.agree(0, 0), false);
        Bench.due("term -1", x.agree(0, -1), false);
        Bench.due("hand 4", x.agree(4, one), false);
        Bench.due("hand -1", x.agree(-1, one), false);
        int hash = x.seal(0, 0, 0);
        Bench.due("no PUBLIC", x.agree(0, hash), false);
        Bench.due("terms", x.terms(), 3);
        Bench.due("agree", x.agree(0, other), true);
        Bench.due("AGREED", x.sort(4), 3);
        Bench.due("the other agrees", x.agree(1, one), true);
        Bench.due("the same term", x.terms(), 4);
        Bench.due("with oneself", x.agree(0, one), true);
        Bench.due("another term", x.terms(), 5);
        Bench.due("its sort", x.sort(5), 3);
        x.key();
        Bench.due("a FRESH is none", x.agree(0, 6), false);
        int third = x.own(2);
        Bench.due("one and three", x.agree(0, third), true);
        Bench.due("two and three", x.agree(1, third), true);
        Bench.due("are two terms", x.terms(), 9);
        Bench.due("three and one", x.agree(2, one), true);
        Bench.due("is no other", x.terms(), 9);
    }

    private static void sealing() {
        PasskeyHouse x = new PasskeyHouse();
        Bench.lay(x, "abcd");
        Bench.due("HASH needs nothing", x.seal(3, 0, 2), 1);
        Bench.due("its sort", x.sort(1), 7);
        for (int what = 1; what <= 4; what++) {
            Bench.due("it has not that", x.seal(0, what, 2), -1);
        }
        int own = x.own(0);
        int other = x.own(1);
        Bench.due("SIGN", x.seal(0, 4, -1), 4);
        Bench.due("its sort", x.sort(4), 6);
        Bench.due("SIGN of the other", x.seal(1, 4, -1), 5);
        Bench.due("SIGN again", x.seal(0, 4, 4), 4);
        Bench.due("agree", x.agree(0, other), true);
        Bench.due("ENC", x.seal(0, 1, -1), 7);
        Bench.due("its sort", x.sort(7), 4);
        Bench.due("MAC", x.seal(0, 2, -1), 8);
        Bench.due("its sort", x.sort(8), 5);
        Bench.due("no token", x.seal(0, 3, -1), -1);
        x.agree(1, own);
        Bench.due("ENC of the other is the same", x.seal(1, 1, -1), 7);
        Bench.due("what 5", x.seal(0, 5, 0), -1);
        Bench.due("what -1", x.seal(0, -1, 0), -1);
        Bench.due("n 5", x.seal(0, 0, 5), -1);
        Bench.due("n -2", x.seal(0, 0, -2), -1);
        Bench.due("hand 4", x.seal(4, 0, 0), -1);
        Bench.due("hand -1", x.seal(-1, 0, 0), -1);
        Bench.due("terms", x.terms(), 8);
        Bench.due("a part", x.seal(0, 1, 3), 9);
        Bench.due("none", x.seal(0, 1, 0), 10);
    }

    private static void opening() {
        PasskeyHouse x = new PasskeyHouse();
        int own = x.own(0);
        int other = x.own(1);
        x.agree(0, other);
        x.agree(1, own);
        Bench.lay(x, "secret");
        int term = x.seal(0, 1, -1);
        int mac = x.seal(0, 2, -1);
        int empty = x.seal(0, 1, 0);
        Bench.lay(x, "tape");
        Bench.due("no ENC", x.open(1, mac), -1);
        Bench.due("no term", x.open(1, 100), -1);
        Bench.due("term 0", x.open(1, 0), -1);
        Bench.due("a hand that did not agree", x.open(2, term), -1);
        Bench.due("hand 4", x.open(4, term), -1);
        Bench.holds("the tape stays", Bench.tapeIs(x, "tape"));
        Bench.due("open", x.open(1, term), 6);
        Bench.holds("on the tape", Bench.tapeIs(x, "secret"));
        Bench.due("open by its maker", x.open(0, term), 6);
        Bench.due("an empty one", x.open(0, empty), 0);
        Bench.holds("an empty tape", Bench.tapeIs(x));
        x.own(2);
        x.agree(2, own);
        Bench.due("of another key AGREED", x.open(2, term), -1);
        x.own(0);
        Bench.due("nothing agreed", x.open(0, term), -1);
    }

    private static void tokens() {
        PasskeyHouse x = new PasskeyHouse();
        x.key();
        Bench.setPin(x, 0, 0, "1234");
        Bench.due("unlock", Bench.unlock(x, 0, 0, "1234"), 0);
        int sent = x.terms();
        Bench.due("SENT", x.sort(sent), 9);
        Bench.due("by hand", x.token(0, sent), true);
        Bench.due("another hand", x.token(1, sent), false);
        Bench.due("no SENT", x.token(0, sent - 1), false);
        Bench.due("no term", x.token(0, sent + 1), false);
        Bench.due("term 0", x.token(0, 0), false);
        Bench.due("hand 4", x.token(4, sent), false);
        Bench.due("hand -1", x.token(-1, sent), false);
        int mark = x.seal(0, 3, 0);
        Bench.due("MARK", x.sort(mark), 10);
        Bench.due("none for the other", x.seal(1, 3, 0), -1);
        Bench.due("the same", x.seal(0, 3, 0), mark);
        int term = Bench.answerFour(x, 0, 4);
        Bench.due("the answer is it", term, sent);
        x.own(1);
        Bench.send(x, 0, 6, Bench.map(1, 1, 2, 2));
        Bench.due("agree otherwise", x.agree(0, Bench.answerFour(x, 0, 4)), true);
        Bench.due("the token stays", x.seal(0, 3, 0), mark);
        Bench.due("of the same AGREED", x.token(0, sent), true);
        x.own(0);
        Bench.due("no token then", x.seal(0, 3, 0), -1);
        Bench.due("nothing agreed", x.token(0, sent), false);
    }

    private static void typing() {
        PasskeyHouse x = new PasskeyHouse();
        x.key();
        Bench.lay(x, "1234567890123");
        Bench.due("pin 13", x.pin(0, 13), false);
        Bench.due("pin -1", x.pin(0, -1), false);
        Bench.due("pin 12", x.pin(0, 12), true);
        Bench.due("pin of hand 4", x.pin(4, 4), false);
        Bench.due("pin of hand -1", x.pin(-1, 4), false);
        Bench.lay(x, "123");
        Bench.due("not so many", x.pin(0, 4), false);
        Bench.due("the PIN stays", x.setPin(0, 0), 0);
        Bench.due("it opens", Bench.unlock(x, 0, 0, "123456789012"), 0);
        Bench.due("none is typed", x.pin(0, 0), true);
        Bench.due("it does not open", x.unlock(0, 0), 49);
        Bench.lay(x, Bench.text(41));
        Bench.due("page 41", x.page(0, 41), false);
        Bench.due("page -1", x.page(0, -1), false);
        Bench.due("page 40", x.page(0, 40), true);
        Bench.due("page of hand 4", x.page(4, 4), false);
        Bench.due("page of hand -1", x.page(-1, 4), false);
        Bench.lay(x, "ab");
        Bench.due("not so many", x.page(0, 3), false);
        Bench.due("page 2", x.page(0, 2), true);
        Bench.due("right for it", x.get(0, 0, 1, -1, 1, 1, 2, 0), 46);
        Bench.due("page 0", x.page(0, 0), true);
        Bench.due("not right then", x.get(0, 0, 1, -1, 1, 1, 2, 0), -2);
    }
}
