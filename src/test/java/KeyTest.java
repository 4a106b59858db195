/** Promises 8 to 17: keys, their power, presses, answers, and what is told of them. */
public final class KeyTest {

    public static void main(String[] args) {
        newKeys();
        power();
        presses();
        cuts();
        commands();
        firstBytes();
        info();
        answers();
        credentials();
        reset();
        Bench.end();
    }

    private static void newKeys() {
        PasskeyHouse x = new PasskeyHouse();
        Bench.due("first key", x.key(), 0);
        Bench.due("terms by it", x.terms(), 1);
        Bench.due("second key", x.key(), 1);
        Bench.due("third key", x.key(), 2);
        Bench.due("fourth key", x.key(), -1);
        Bench.due("no term by that", x.terms(), 3);
        Bench.due("its master is FRESH", x.sort(3), 1);
        int[] told = {1, 0, 0, 0, 0, 1, 0, 12, 0, 8, 0, 0};
        for (int what = 0; what < told.length; what++) {
            Bench.due("told " + what, x.told(2, what), told[what]);
        }
        Bench.due("told 12", x.told(2, 12), -1);
        Bench.due("told -1", x.told(2, -1), -1);
        Bench.due("told of key 3", x.told(3, 0), -1);
        Bench.due("told of key -1", x.told(-1, 0), -1);
        Bench.holds("a header", Bench.isHeader(x, 1, 0, 1));
        Bench.holds("MASTER", Bench.isRecord(x, 1, 0, 4, 1, Bench.four(2)));
        Bench.holds("all else erased", Bench.isErased(x, 1, 12, 300));
        Bench.due("flash 512", x.flash(1, 512), -1);
        Bench.due("flash -1", x.flash(1, -1), -1);
        Bench.due("flash of no key", x.flash(3, 0), -1);
        Bench.due("the first new secret", x.own(0), 4);
    }

    private static void power() {
        PasskeyHouse x = new PasskeyHouse();
        x.key();
        Bench.due("off", x.power(0, false), false);
        Bench.due("told on", x.told(0, 0), 0);
        for (int what = 5; what <= 11; what++) {
            Bench.due("told of one that is off", x.told(0, what), -1);
        }
        Bench.due("acts of one that is off", x.told(0, 1), 0);
        Bench.due("flash of one that is off", x.flash(0, 1), 1);
        Bench.due("off again", x.power(0, false), false);
        Bench.due("a message to one that is off", Bench.send(x, 0, 4), -3);
        Bench.due("it answered none", x.told(0, 4), 0);
        x.press(0);
        int terms = x.terms();
        Bench.due("MAKE to one that is off", Bench.send(x, 0, 1, Bench.makeMap(1, "a", "u")), -3);
        Bench.due("no term by that", x.terms(), terms);
        Bench.due("no press taken", x.told(0, 2), 1);
        Bench.due("on", x.power(0, true), true);
        Bench.due("on again", x.power(0, true), true);
        Bench.due("told on", x.told(0, 0), 1);
        Bench.due("no acts by that", x.told(0, 1), 0);
        Bench.due("power of no key", x.power(1, true), false);
        Bench.due("power of key -1", x.power(-1, true), false);
        Bench.due("new secrets when it wakes", publicTerm(x), 2);
        Bench.due("the same then", publicTerm(x), 2);
        x.power(0, true);
        Bench.due("none when it is on", publicTerm(x), 2);
        x.power(0, false);
        x.power(0, true);
        Bench.due("another then", publicTerm(x), 3);
    }

    private static int publicTerm(PasskeyHouse x) {
        Bench.due("ask for PUBLIC", Bench.send(x, 0, 6, Bench.map(1, 1, 2, 2)), 0);
        Bench.holds("its answer", Bench.answers(x, 0, 0, Bench.map(1, Bench.four(Bench.answerFour(x, 0, 4)))));
        return Bench.answerFour(x, 0, 4);
    }

    private static void presses() {
        PasskeyHouse x = new PasskeyHouse();
        x.key();
        x.key();
        for (int i = 1; i <= 9; i++) {
            Bench.due("press", x.press(0), i);
        }
        Bench.due("a tenth", x.press(0), -1);
        Bench.due("nine wait", x.told(0, 2), 9);
        Bench.due("none at the other", x.told(1, 2), 0);
        Bench.due("press of no key", x.press(2), -1);
        x.power(0, false);
        Bench.due("they stay without power", x.told(0, 2), 9);
        x.power(0, true);
        Bench.due("and with it", x.told(0, 2), 9);
        Bench.due("a wrap takes one", Bench.send(x, 0, 1, Bench.makeMap(1, "a", "u")), 0);
        Bench.due("eight wait", x.told(0, 2), 8);
        Bench.due("one was taken", x.told(0, 3), 1);
        x.power(0, false);
        Bench.due("a press while it is off", x.press(0), 9);
    }

    private static void cuts() {
        PasskeyHouse x = new PasskeyHouse();
        x.key();
        Bench.due("cut -2", x.cut(0, -2), false);
        Bench.due("cut 2001", x.cut(0, 2001), false);
        Bench.due("cut of no key", x.cut(1, 1), false);
        Bench.due("cut 2000", x.cut(0, 2000), true);
        Bench.due("cut 0", x.cut(0, 0), true);
        Bench.due("cut never", x.cut(0, -1), true);
        int id = Bench.wrap(x, 0, "a");
        Bench.due("never", Bench.signBy(x, 0, "a", id), 0);
        Bench.due("acts", x.told(0, 1), 12);
        x.cut(0, 12);
        Bench.due("all of its acts are done", Bench.signBy(x, 0, "a", id), 0);
        Bench.due("on still", x.told(0, 0), 1);
        Bench.due("the next is not", Bench.signBy(x, 0, "a", id), -3);
        Bench.due("off", x.told(0, 0), 0);
        Bench.due("acts that were done", x.told(0, 1), 24);
        Bench.due("on", x.power(0, true), true);
        Bench.due("it is told no more", Bench.signBy(x, 0, "a", id), 0);
        x.power(0, false);
        x.cut(0, 3);
        x.power(0, true);
        Bench.due("told while it was off", Bench.signBy(x, 0, "a", id), -3);
        Bench.due("three acts", x.told(0, 1), 24 + 12 + 3);
        x.cut(0, 7);
        Bench.due("it fails when it wakes and moves", x.power(0, true), false);
        Bench.due("seven acts more", x.told(0, 1), 24 + 12 + 3 + 7);
        Bench.due("then it wakes", x.power(0, true), true);
        Bench.due("generation 2", x.told(0, 5), 2);
        Bench.due("its count", x.told(0, 11), 3);
        int end = x.told(0, 7);
        Bench.store(x, 0, "a", "u");
        int secrets = 2 + 1 + 3 * 2;
        Bench.due("a waking that fails makes no secrets", x.flash(0, 256 + end + 2 + 11), secrets + 1);
    }

    private static void commands() {
        PasskeyHouse x = new PasskeyHouse();
        x.key();
        Bench.lay(x, 4, 8);
        Bench.due("a part of the tape", x.command(0, 1) > 1, true);
        Bench.due("all of it", x.command(0, -1), 1);
        Bench.due("all of it, told", x.command(0, 2), 1);
        Bench.due("more than there is", x.command(0, 3), -1);
        Bench.due("n -2", x.command(0, -2), -1);
        Bench.due("no such key", x.command(1, -1), -1);
        Bench.due("key -1", x.command(-1, -1), -1);
        Bench.holds("the tape stays", Bench.tapeIs(x, 4, 8));
        Bench.due("answered", x.told(0, 4), 3);
        Bench.due("the latest answer", x.answer(0, 0), 3);
        Bench.due("none of the tape", x.command(0, 0), 1);
        Bench.due("an empty message", x.answer(0, 0), 3);
        x.wipe();
        Bench.due("an empty tape", x.command(0, -1), 1);
        Bench.due("answered", x.told(0, 4), 5);
    }

    private static void firstBytes() {
        PasskeyHouse x = new PasskeyHouse();
        x.key();
        for (int first : new int[] {0, 3, 5, 9, 16, 255}) {
            Bench.due("first byte " + first, Bench.send(x, 0, first), 1);
            Bench.due("and bytes behind", Bench.send(x, 0, first, 0xa0), 1);
        }
        Bench.due("4 and more", Bench.send(x, 0, 4, 0xa0), 3);
        Bench.due("7 and more", Bench.send(x, 0, 7, 0), 3);
        Bench.due("8 and more", Bench.send(x, 0, 8, 8), 3);
        Bench.due("8 without a list", Bench.send(x, 0, 8), 48);
        Bench.holds("the status alone", Bench.answers(x, 0, 48));
        Bench.due("7 after commands", Bench.send(x, 0, 7), 48);
    }

    private static void info() {
        PasskeyHouse x = new PasskeyHouse();
        x.key();
        Bench.due("INFO", Bench.send(x, 0, 4), 0);
        Bench.holds("without a PIN", Bench.answers(x, 0, Bench.hex("00 a5 01 81 68"), "FIDO_2_0",
            Bench.hex("03 42 0000 04 a3 62"), "rk", Bench.hex("f5 62"), "up", Bench.hex("f5 69"), "clientPin",
            Bench.hex("f4 05 190190 06 81 01")));
        Bench.setPin(x, 0, 0, "1234");
        Bench.due("INFO", Bench.send(x, 0, 4), 0);
        Bench.holds("with a PIN", Bench.answers(x, 0, Bench.hex("00 a5 01 81 68"), "FIDO_2_0",
            Bench.hex("03 42 0000 04 a3 62"), "rk", Bench.hex("f5 62"), "up", Bench.hex("f5 69"), "clientPin",
            Bench.hex("f5 05 190190 06 81 01")));
    }

    private static void answers() {
        PasskeyHouse x = new PasskeyHouse();
        x.key();
        x.key();
        Bench.lay(x, "tape");
        Bench.due("no answer yet", x.answer(0, 0), -1);
        Bench.due("take none", x.take(0), -1);
        Bench.holds("the tape stays", Bench.tapeIs(x, "tape"));
        Bench.send(x, 0, 6, Bench.map(1, 1, 2, 1));
        Bench.holds("the tries", Bench.answers(x, 0, 0, Bench.map(3, 8)));
        Bench.due("answer -1", x.answer(0, -1), -1);
        Bench.due("answer 4", x.answer(0, 4), -1);
        Bench.due("answer of no key", x.answer(2, 0), -1);
        Bench.due("the other has none", x.answer(1, 0), -1);
        Bench.due("take", x.take(0), 4);
        Bench.holds("it is on the tape", Bench.tapeIs(x, 0, Bench.map(3, 8)));
        Bench.due("take of no key", x.take(2), -1);
        Bench.due("take -1", x.take(-1), -1);
        x.power(0, false);
        Bench.due("the answer stays", x.answer(0, 1), 0xa1);
        Bench.due("SILENT", x.command(0, -1), -3);
        Bench.due("no answer then", x.answer(0, 0), -1);
        Bench.due("none to take", x.take(0), -1);
        x.power(0, true);
        Bench.due("none still", x.answer(0, 0), -1);
    }

    private static void credentials() {
        PasskeyHouse x = new PasskeyHouse();
        x.key();
        int first = Bench.store(x, 0, "a", "12345678");
        int second = Bench.store(x, 0, "b", "\u0000\u00ff");
        Bench.due("two", x.told(0, 8), 2);
        Bench.due("id", x.credential(0, 0, 0), first);
        Bench.due("HASH", x.sort(x.credential(0, 0, 1)), 7);
        Bench.due("count", x.credential(0, 0, 2), 0);
        Bench.due("bytes of the user", x.credential(0, 0, 3), 8);
        Bench.due("byte 0", x.credential(0, 0, 4), '1');
        Bench.due("byte 7", x.credential(0, 0, 11), '8');
        Bench.due("byte 8", x.credential(0, 0, 12), -1);
        Bench.due("id of the other", x.credential(0, 1, 0), second);
        Bench.due("another HASH", x.credential(0, 1, 1) != x.credential(0, 0, 1), true);
        Bench.due("byte 0", x.credential(0, 1, 4), 0);
        Bench.due("byte 1", x.credential(0, 1, 5), 255);
        Bench.due("byte 2", x.credential(0, 1, 6), -1);
        Bench.due("what -1", x.credential(0, 0, -1), -1);
        Bench.due("none such", x.credential(0, 2, 0), -1);
        Bench.due("i -1", x.credential(0, -1, 0), -1);
        Bench.due("no key", x.credential(1, 0, 0), -1);
        Bench.due("by id", Bench.signBy(x, 0, "b", second), 0);
        Bench.due("its count", x.credential(0, 1, 2), 1);
        Bench.due("not the other's", x.credential(0, 0, 2), 0);
        Bench.due("nor the key's own", x.told(0, 11), 0);
        x.power(0, false);
        Bench.due("of one that is off", x.credential(0, 0, 0), -1);
        x.power(0, true);
        Bench.due("on again", x.credential(0, 1, 2), 1);
    }

    /** The secrets that RESET makes are seen by the number of the next one. */
    private static void resetSecrets() {
        PasskeyHouse x = new PasskeyHouse();
        x.key();
        x.press(0);
        Bench.due("RESET", Bench.send(x, 0, 7), 0);
        Bench.store(x, 0, "a", "u");
        Bench.due("two for waking, two for RESET", x.flash(0, 256 + 12 + 2 + 11), 5);
    }

    private static void reset() {
        PasskeyHouse x = new PasskeyHouse();
        x.key();
        int id = Bench.store(x, 0, "a", "u");
        int wrapped = Bench.wrap(x, 0, "a");
        Bench.signBy(x, 0, "a", wrapped);
        Bench.setPin(x, 0, 0, "1234");
        Bench.due("wrong", Bench.unlock(x, 0, 0, "4321"), 49);
        Bench.due("a command came", Bench.send(x, 0, 7), 48);
        x.power(0, false);
        x.power(0, true);
        Bench.due("no press", Bench.send(x, 0, 7), 39);
        x.press(0);
        Bench.due("that was a command", Bench.send(x, 0, 7), 48);
        x.power(0, false);
        Bench.due("a message while it is off", Bench.send(x, 0, 4), -3);
        x.power(0, true);
        int asked = publicTerm(x);
        x.power(0, false);
        x.power(0, true);
        int terms = x.terms();
        int acts = x.told(0, 1);
        Bench.due("RESET", Bench.send(x, 0, 7), 0);
        Bench.holds("0 alone", Bench.answers(x, 0, 0));
        Bench.due("a FRESH master", x.terms(), terms + 1);
        Bench.due("a press was taken", x.told(0, 2), 0);
        Bench.due("acts", x.told(0, 1), acts + 4 + 8 + 4);
        int[] told = {2, 1, 12, 0, 8, 0, 0};
        for (int i = 0; i < told.length; i++) {
            Bench.due("told " + (5 + i), x.told(0, 5 + i), told[i]);
        }
        Bench.holds("its header", Bench.isHeader(x, 0, 1, 2));
        Bench.holds("MASTER", Bench.isRecord(x, 0, 1, 4, 1, Bench.four(terms + 1)));
        Bench.holds("another secret to agree with", publicTerm(x) != asked);
        Bench.due("its credential is gone", Bench.signBy(x, 0, "a", id), 46);
        Bench.due("its wraps are gone", Bench.signBy(x, 0, "a", wrapped), 46);
        x.press(0);
        Bench.due("a second RESET", Bench.send(x, 0, 7), 48);
        x.power(0, false);
        x.power(0, true);
        Bench.due("it woke so", x.told(0, 5), 2);
        resetSecrets();
    }
}
