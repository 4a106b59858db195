import java.util.function.Supplier;

/** Promises 8 to 17: the boundary cases of keys, their power, presses, answers, and what is told of them. */
public final class KeyLimitsTest {

    private static final int LEAST = Integer.MIN_VALUE;
    private static final int MOST = Integer.MAX_VALUE;
    /** Keys that are not there when there are three, which are as many as there may be. */
    private static final int[] NO_KEYS = {3, 4, -1, -2, LEAST, MOST};

    public static void main(String[] args) {
        Bench.run(KeyLimitsTest.class);
    }

    /** A furnished house, of which one key is off. */
    private static Supplier<PasskeyHouse> off(int key) {
        return () -> {
            PasskeyHouse x = Twins.furnished();
            x.power(key, false);
            return x;
        };
    }

    // ---- Promise 8: key

    @Sentence("Promise 8: A new key, on, as new (no acts are counted for that): its number")
    static void newKeys() {
        PasskeyHouse x = new PasskeyHouse();
        for (int k = 0; k < 3; k++) {
            Bench.due("none yet", x.told(k, 0), -1);
            Bench.due("key", x.key(), k);
            int[] want = {1, 0, 0, 0, 0, 1, 0, 12, 0, 8, 0, 0};
            for (int what = 0; what < want.length; what++) {
                Bench.due("told " + what, x.told(k, what), want[what]);
            }
            Bench.due("no answer", x.answer(k, 0), -1);
            Bench.due("a FRESH term each", x.terms(), 1 + k);
        }
    }

    @Sentence("Promise 8: NONE: there are 3")
    static void fourthKey() {
        Twins.refused(Twins::furnished, "key", x -> x.key(), x -> x.key());
        Twins.refused(() -> {
            PasskeyHouse x = new PasskeyHouse();
            x.key();
            x.key();
            x.key();
            return x;
        }, "key of new ones", x -> x.key());
    }

    // ---- Promise 9: power

    @Sentence("Promise 9: Power comes (a key that is off wakes) or goes: whether it is on then")
    static void comesAndGoes() {
        PasskeyHouse x = Bench.house();
        Bench.due("goes", x.power(0, false), false);
        Bench.due("off", x.told(0, 0), 0);
        Bench.due("goes again", x.power(0, false), false);
        Bench.due("off", x.told(0, 0), 0);
        Bench.due("comes", x.power(0, true), true);
        Bench.due("on", x.told(0, 0), 1);
        Bench.due("comes again", x.power(0, true), true);
        Bench.due("on", x.told(0, 0), 1);
    }

    @Sentence("Promise 9: a key that is off wakes; one that is on does not")
    static void onAlready() {
        Twins.answered(Twins::furnished, "power of one that is on", 1, x -> x.power(0, true) ? 1 : 0, x -> x.power(1, true) ? 1 : 0,
            x -> x.power(2, true) ? 1 : 0);
    }

    @Sentence("Promise 9: power that goes again changes nothing")
    static void offAlready() {
        Twins.answered(off(0), "power of one that is off", 0, x -> x.power(0, false) ? 1 : 0, x -> x.power(0, false) ? 1 : 0);
    }

    @Sentence("Promise 9: whether it is on then: not when power fails while it wakes")
    static void failsWhileWaking() {
        PasskeyHouse x = Bench.house();
        x.press(0);
        x.cut(0, 3);
        Bench.due("MAKE", Bench.send(x, 0, 1, Bench.more(Bench.makeMap(1, "a", "u"), 7, Bench.map("rk", true))), -3);
        for (int acts = 0; acts < 16; acts++) {
            x.cut(0, acts);
            Bench.due("comes, with " + acts, x.power(0, true), false);
            Bench.due("off", x.told(0, 0), 0);
        }
        Bench.due("comes", x.power(0, true), true);
        Bench.due("on", x.told(0, 0), 1);
    }

    @Sentence("Promise 9: False: also when there is no such key")
    static void powerOfNoKey() {
        for (int k : NO_KEYS) {
            Twins.denied(Twins::furnished, "power of key " + k, x -> x.power(k, true), x -> x.power(k, false));
        }
        Bench.due("key 0 of none", new PasskeyHouse().power(0, true), false);
        Bench.due("key 1 of one", Bench.house().power(1, true), false);
    }

    @Sentence("Promise 9: power of one key is not that of others")
    static void powerOfOne() {
        PasskeyHouse x = Bench.house();
        x.key();
        x.key();
        x.power(1, false);
        for (int k = 0; k < 3; k++) {
            Bench.due("key " + k, x.told(k, 0), k == 1 ? 0 : 1);
        }
    }

    // ---- Promise 10: press

    @Sentence("Promise 10: A press more waits at a key: how many wait. NONE: 9 wait")
    static void ninePresses() {
        PasskeyHouse x = Bench.house();
        for (int i = 1; i <= 9; i++) {
            Bench.due("press", x.press(0), i);
            Bench.due("waits", x.told(0, 2), i);
        }
        Twins.refused(() -> {
            PasskeyHouse y = Twins.furnished();
            while (y.told(0, 2) < 9) {
                y.press(0);
            }
            return y;
        }, "a tenth", y -> y.press(0), y -> y.press(0));
        Bench.due("MAKE takes one", Bench.send(x, 0, 1, Bench.makeMap(1, "a", "u")), 0);
        Bench.due("eight wait", x.told(0, 2), 8);
        Bench.due("a ninth again", x.press(0), 9);
        Bench.due("no tenth", x.press(0), -1);
    }

    @Sentence("Promise 10: NONE: there is no such key")
    static void pressOfNoKey() {
        for (int k : NO_KEYS) {
            Twins.refused(Twins::furnished, "press of key " + k, x -> x.press(k));
        }
        Bench.due("key 1 of one", Bench.house().press(1), -1);
    }

    @Sentence("Promise 10: (They stay without power.)")
    static void pressesStay() {
        PasskeyHouse x = Bench.house();
        for (int i = 1; i <= 8; i++) {
            x.press(0);
        }
        x.power(0, false);
        Bench.due("eight wait", x.told(0, 2), 8);
        Bench.due("a press while it is off", x.press(0), 9);
        Bench.due("no tenth", x.press(0), -1);
        x.power(0, true);
        Bench.due("nine wait", x.told(0, 2), 9);
        x.cut(0, 0);
        Bench.due("MAKE", Bench.send(x, 0, 1, Bench.more(Bench.makeMap(1, "a", "u"), 7, Bench.map("rk", true))), -3);
        Bench.due("one was taken before power failed", x.told(0, 2), 8);
        x.power(0, true);
        Bench.due("eight wait", x.told(0, 2), 8);
    }

    // ---- Promise 11: cut

    /** A key with a WRAP and a message on the tape that signs by it: 12 acts each time. */
    private static PasskeyHouse signing() {
        PasskeyHouse x = Bench.house();
        int id = Bench.wrap(x, 0, "a");
        Bench.due("sign", Bench.signBy(x, 0, "a", id), 0);
        return x;
    }

    @Sentence("Promise 11: Power fails when so many acts more are done, and there is one more (0 .. 2000)")
    static void cutsOf0To2000() {
        for (int acts : new int[] {0, 1, 11, 12, 13, 1999, 2000}) {
            PasskeyHouse x = signing();
            Bench.due("cut " + acts, x.cut(0, acts), true);
            int times = 0;
            while (times < 300 && x.command(0, -1) != -3) {
                times++;
            }
            Bench.due("acts with " + acts, x.told(0, 1), 12 + acts);
            Bench.due("off", x.told(0, 0), 0);
        }
    }

    @Sentence("Promise 11: NONE: never")
    static void cutNever() {
        PasskeyHouse x = signing();
        x.cut(0, 0);
        Bench.due("cut", x.cut(0, -1), true);
        for (int i = 0; i < 200; i++) {
            Bench.holds("answered", x.command(0, -1) > 1);
        }
        Bench.due("on", x.told(0, 0), 1);
        Bench.due("acts are more than 2000", x.told(0, 1) > 2000, true);
    }

    @Sentence("Promise 11: the latest cut counts, from then on")
    static void latestCut() {
        PasskeyHouse x = signing();
        x.cut(0, 5);
        x.cut(0, 20);
        Bench.due("sign", x.command(0, -1) > 1, true);
        x.cut(0, 9);
        Bench.due("sign", x.command(0, -1), -3);
        Bench.due("acts", x.told(0, 1), 12 + 12 + 9);
    }

    @Sentence("Promise 11: it counts also while the key is off")
    static void cutWhileOff() {
        PasskeyHouse x = signing();
        x.power(0, false);
        Bench.due("cut", x.cut(0, 7), true);
        x.power(0, true);
        Bench.due("sign", x.command(0, -1), -3);
        Bench.due("acts", x.told(0, 1), 12 + 7);
        Bench.due("cut", x.cut(0, 2), true);
        Bench.due("it wakes and moves", x.power(0, true), false);
        Bench.due("acts", x.told(0, 1), 12 + 7 + 2);
        PasskeyHouse y = signing();
        y.cut(0, 7);
        y.power(0, false);
        y.power(0, true);
        y.power(0, false);
        y.power(0, true);
        Bench.due("told before it was off", y.command(0, -1), -3);
        Bench.due("acts", y.told(0, 1), 12 + 7);
    }

    @Sentence("Promise 11: False: there is none such: acts")
    static void cutOfNoActs() {
        Twins.denied(Twins::furnished, "cut", x -> x.cut(0, 2001), x -> x.cut(0, -2), x -> x.cut(1, 2001), x -> x.cut(1, -2),
            x -> x.cut(1, LEAST), x -> x.cut(1, MOST));
    }

    @Sentence("Promise 11: False: there is none such: key")
    static void cutOfNoKey() {
        for (int k : NO_KEYS) {
            Twins.denied(Twins::furnished, "cut of key " + k, x -> x.cut(k, 0), x -> x.cut(k, -1));
        }
        Bench.due("key 1 of one", Bench.house().cut(1, 0), false);
    }

    @Sentence("Promise 11: a cut is of one key alone")
    static void cutOfOne() {
        PasskeyHouse x = signing();
        x.key();
        x.cut(1, 0);
        Bench.holds("key 0 signs", x.command(0, -1) > 1);
        Bench.due("on", x.told(0, 0), 1);
    }

    // ---- Promise 12: command

    @Sentence("Promise 12: The first n bytes of the tape (all, if n is NONE) are a message to a key")
    static void firstBytes() {
        PasskeyHouse x = Bench.house();
        Bench.lay(x, 4, 4);
        Bench.due("n 0: an empty message", x.command(0, 0), 1);
        Bench.due("status", x.answer(0, 0), 3);
        Bench.due("n 1: INFO", x.command(0, 1), 45);
        Bench.due("status", x.answer(0, 0), 0);
        Bench.due("n 2: a byte behind", x.command(0, 2), 1);
        Bench.due("status", x.answer(0, 0), 3);
        Bench.due("all", x.command(0, -1), 1);
        Bench.due("status", x.answer(0, 0), 3);
        x.wipe();
        Bench.due("all of an empty tape", x.command(0, -1), 1);
        Bench.due("status", x.answer(0, 0), 3);
        Bench.due("none of an empty tape", x.command(0, 0), 1);
        Bench.due("answered", x.told(0, 4), 6);
    }

    @Sentence("Promise 12: the tape stays")
    static void tapeStays() {
        PasskeyHouse x = Bench.house();
        Bench.lay(x, 4);
        x.command(0, -1);
        Bench.holds("the same", Bench.tapeIs(x, 4));
        x.power(0, false);
        Bench.due("SILENT", x.command(0, -1), -3);
        Bench.holds("the same", Bench.tapeIs(x, 4));
    }

    @Sentence("Promise 12: a message of 400 bytes is taken")
    static void longestMessage() {
        PasskeyHouse x = Bench.house();
        Bench.lay(x, 6, Bench.hex("a30101020107590186"), new byte[390]);
        Bench.due("all", x.command(0, -1), 4);
        Bench.due("400", x.command(0, 400), 4);
        Bench.due("399", x.command(0, 399), 1);
        Bench.due("401", x.command(0, 401), -1);
    }

    @Sentence("Promise 12: SILENT when it is off")
    static void silentWhenOff() {
        PasskeyHouse x = Bench.house();
        Bench.lay(x, 4);
        x.power(0, false);
        Bench.due("SILENT", x.command(0, -1), -3);
        Bench.due("an empty message too", x.command(0, 0), -3);
        Bench.due("none answered", x.told(0, 4), 0);
        x.power(0, true);
        x.press(0);
        Bench.due("it was no command since power", Bench.send(x, 0, 7), 0);
    }

    @Sentence("Promise 12: SILENT when it went off by it (there is no answer then)")
    static void silentWhenItWentOff() {
        PasskeyHouse x = signing();
        int answered = x.told(0, 4);
        x.cut(0, 4);
        Bench.due("SILENT", x.command(0, -1), -3);
        Bench.due("no answer", x.answer(0, 0), -1);
        Bench.due("none to take", x.take(0), -1);
        Bench.due("not answered", x.told(0, 4), answered);
        x.power(0, true);
        Bench.due("no answer still", x.answer(0, 0), -1);
    }

    @Sentence("Promise 12: NONE: there is no such key")
    static void commandOfNoKey() {
        for (int k : NO_KEYS) {
            Twins.refused(Twins::furnished, "command of key " + k, x -> x.command(k, -1), x -> x.command(k, 0));
        }
        Bench.due("key 1 of one", Bench.house().command(1, -1), -1);
    }

    @Sentence("Promise 12: NONE: or there are not so many bytes")
    static void commandOfNoBytes() {
        Twins.refused(Twins::furnished, "command", x -> x.command(0, 17), x -> x.command(0, -2), x -> x.command(0, 400),
            x -> x.command(0, LEAST), x -> x.command(0, MOST), x -> x.command(2, 17), x -> x.command(2, -2));
        Twins.refused(off(0), "command to one that is off", x -> x.command(0, 17), x -> x.command(0, -2));
        Bench.due("just so many", Twins.furnished().command(0, 16), 1);
    }

    // ---- Promise 13: answer

    @Sentence("Promise 13: Byte i of the latest answer of a key; NONE when there is none")
    static void answerEnds() {
        PasskeyHouse x = Bench.house();
        Bench.due("no answer yet", x.answer(0, 0), -1);
        Bench.due("INFO", Bench.send(x, 0, 4), 0);
        Bench.due("the first", x.answer(0, 0), 0);
        Bench.due("the last", x.answer(0, 44), 1);
        for (int i : new int[] {45, 46, 400, -1, LEAST, MOST}) {
            Bench.due("byte " + i, x.answer(0, i), -1);
        }
        Bench.due("a fault", Bench.send(x, 0, 3), 1);
        Bench.due("the latest alone", x.answer(0, 0), 1);
        Bench.due("not the one before", x.answer(0, 1), -1);
        for (int k : new int[] {1, 2, 3, -1, LEAST, MOST}) {
            Bench.due("key " + k, x.answer(k, 0), -1);
        }
        Twins.refused(Twins::furnished, "answer", y -> y.answer(0, 400), y -> y.answer(0, -1), y -> y.answer(3, 0), y -> y.answer(2, 0));
    }

    @Sentence("Promise 13: NONE also when it was SILENT")
    static void answerAfterSilence() {
        PasskeyHouse x = Bench.house();
        Bench.due("INFO", Bench.send(x, 0, 4), 0);
        x.power(0, false);
        Bench.due("the answer stays without power", x.answer(0, 0), 0);
        Bench.due("SILENT", x.command(0, -1), -3);
        Bench.due("none", x.answer(0, 0), -1);
        x.power(0, true);
        Bench.due("none", x.answer(0, 0), -1);
        Bench.due("INFO", x.command(0, -1), 45);
        Bench.due("one again", x.answer(0, 44), 1);
    }

    @Sentence("Promise 13: a message that is refused (NONE) leaves the latest answer")
    static void answerAfterRefusal() {
        PasskeyHouse x = Bench.house();
        Bench.due("INFO", Bench.send(x, 0, 4), 0);
        Bench.due("refused", x.command(0, 2), -1);
        Bench.due("the answer", x.answer(0, 44), 1);
    }

    // ---- Promise 14: take

    @Sentence("Promise 14: That answer goes onto the tape, in place of what was there: how many bytes")
    static void taking() {
        PasskeyHouse x = Bench.house();
        Bench.due("INFO", Bench.send(x, 0, 4), 0);
        Bench.lay(x, Bench.text(400));
        Bench.due("take", x.take(0), 45);
        Bench.due("the first", x.at(0), 0);
        Bench.due("the last", x.at(44), 1);
        Bench.due("no more", x.at(45), -1);
        x.wipe();
        Bench.due("take again", x.take(0), 45);
        Bench.due("a status alone", Bench.send(x, 0, 3), 1);
        Bench.due("take", x.take(0), 1);
        Bench.holds("it alone", Bench.tapeIs(x, 1));
        x.power(0, false);
        Bench.due("of one that is off", x.take(0), 1);
    }

    @Sentence("Promise 14: NONE: there is no such key")
    static void takeOfNoKey() {
        for (int k : NO_KEYS) {
            Twins.refused(Twins::furnished, "take of key " + k, x -> x.take(k));
        }
    }

    @Sentence("Promise 14: NONE: or no answer")
    static void takeOfNoAnswer() {
        Twins.refused(Twins::furnished, "take of one that was never asked", x -> x.take(2));
        Twins.refused(() -> {
            PasskeyHouse x = Twins.furnished();
            x.power(0, false);
            x.command(0, -1);
            return x;
        }, "take of one that was SILENT", x -> x.take(0));
    }

    // ---- Promise 15: flash

    @Sentence("Promise 15: Byte i (0 .. 511) of a key's flash; NONE when there is none")
    static void flashEnds() {
        PasskeyHouse x = Bench.house();
        Bench.due("byte 0", x.flash(0, 0), 0);
        Bench.due("byte 1", x.flash(0, 1), 1);
        Bench.due("byte 255", x.flash(0, 255), 255);
        Bench.due("byte 256", x.flash(0, 256), 255);
        Bench.due("byte 511", x.flash(0, 511), 255);
        for (int i : new int[] {512, 513, -1, LEAST, MOST}) {
            Bench.due("byte " + i, x.flash(0, i), -1);
        }
        for (int k : new int[] {1, 2, 3, -1, LEAST, MOST}) {
            Bench.due("key " + k, x.flash(k, 0), -1);
        }
        x.power(0, false);
        Bench.due("of one that is off", x.flash(0, 1), 1);
        Twins.refused(Twins::furnished, "flash", y -> y.flash(0, 512), y -> y.flash(0, -1), y -> y.flash(3, 0), y -> y.flash(-1, 0));
    }

    @Sentence("Promise 15: the last byte of each area is written, and no byte beside")
    static void lastBytes() {
        PasskeyHouse x = Bench.house();
        int id = Bench.store(x, 0, "a", "1234");
        Bench.setPin(x, 0, 0, "1234");
        Bench.due("sign", Bench.signBy(x, 0, "a", id), 0);
        for (int i = 1; i < 18; i++) {
            Bench.holds("sign", x.command(0, -1) > 1);
        }
        Bench.due("end", x.told(0, 7), 256);
        Bench.holds("the last record", Bench.isRecord(x, 0, 0, 244, 4, Bench.bytes(Bench.four(id), Bench.four(18))));
        Bench.due("the first byte of the other area", x.flash(0, 256), 255);
    }

    // ---- Promise 16: told

    @Sentence("Promise 16: what = 0 whether it is on, 1 acts, 2 presses that wait, 3 that were taken, 4 commands that were answered")
    static void toldWithoutPower() {
        PasskeyHouse x = Bench.house();
        x.press(0);
        x.press(0);
        x.press(0);
        Bench.due("MAKE", Bench.send(x, 0, 1, Bench.more(Bench.makeMap(1, "a", "u"), 7, Bench.map("rk", true))), 0);
        int[] want = {1, 17, 2, 1, 1};
        for (int what = 0; what < want.length; what++) {
            Bench.due("told " + what, x.told(0, what), want[what]);
        }
        x.power(0, false);
        want[0] = 0;
        for (int what = 0; what < want.length; what++) {
            Bench.due("off, told " + what, x.told(0, what), want[what]);
        }
    }

    @Sentence("Promise 16: 4 commands that were answered: any message, not those that were SILENT or refused")
    static void answeredCommands() {
        PasskeyHouse x = Bench.house();
        int want = 0;
        for (int first : new int[] {0, 1, 2, 3, 4, 6, 7, 8, 255}) {
            Bench.send(x, 0, first);
            want++;
            Bench.due("first byte " + first, x.told(0, 4), want);
        }
        x.command(0, 2);
        Bench.due("refused", x.told(0, 4), want);
        x.power(0, false);
        x.command(0, -1);
        Bench.due("SILENT", x.told(0, 4), want);
        x.power(0, true);
        Bench.due("they stay over power", x.told(0, 4), want);
    }

    @Sentence("Promise 16: NONE for others")
    static void toldOthers() {
        PasskeyHouse x = Bench.house();
        for (int what : new int[] {12, 13, 100, -1, -2, LEAST, MOST}) {
            Bench.due("told " + what, x.told(0, what), -1);
        }
        Bench.due("told 11", x.told(0, 11), 0);
        for (int k : new int[] {1, 2, 3, -1, LEAST, MOST}) {
            Bench.due("key " + k, x.told(k, 0), -1);
            Bench.due("key " + k, x.told(k, 5), -1);
        }
        x.power(0, false);
        for (int what : new int[] {12, -1, LEAST, MOST}) {
            Bench.due("off, told " + what, x.told(0, what), -1);
        }
        Twins.refused(Twins::furnished, "told", y -> y.told(0, 12), y -> y.told(0, -1), y -> y.told(3, 0), y -> y.told(-1, 0));
    }

    @Sentence("Promise 16: NONE when it is off for 5 to 11")
    static void toldWhenOff() {
        PasskeyHouse x = Bench.house();
        x.power(0, false);
        for (int what = 5; what <= 11; what++) {
            Bench.due("told " + what, x.told(0, what), -1);
        }
        Bench.due("told 4", x.told(0, 4), 0);
        x.power(0, true);
        int[] want = {1, 0, 12, 0, 8, 0, 0};
        for (int what = 5; what <= 11; what++) {
            Bench.due("told " + what, x.told(0, what), want[what - 5]);
        }
    }

    // ---- Promise 17: credential

    @Sentence("Promise 17: what = 3 how many bytes its user has, 4 + j byte j of these. NONE when there is none such")
    static void credentialUsers() {
        PasskeyHouse x = Bench.house();
        Bench.store(x, 0, "a", "\u0080");
        Bench.store(x, 0, "a", "12345678");
        Bench.due("bytes of the first", x.credential(0, 0, 3), 1);
        Bench.due("byte 0", x.credential(0, 0, 4), 128);
        Bench.due("byte 1", x.credential(0, 0, 5), -1);
        Bench.due("bytes of the second", x.credential(0, 1, 3), 8);
        Bench.due("byte 0", x.credential(0, 1, 4), '1');
        Bench.due("byte 7", x.credential(0, 1, 11), '8');
        for (int what : new int[] {12, 13, -1, LEAST, MOST}) {
            Bench.due("what " + what, x.credential(0, 1, what), -1);
        }
    }

    @Sentence("Promise 17: Of credential i (from 0, by their places). NONE when there is none such")
    static void credentialEnds() {
        PasskeyHouse x = Bench.house();
        Bench.due("none yet", x.credential(0, 0, 0), -1);
        int first = Bench.store(x, 0, "a", "1");
        int second = Bench.store(x, 0, "a", "2");
        Bench.due("credential 0", x.credential(0, 0, 0), first);
        Bench.due("credential 1", x.credential(0, 1, 0), second);
        for (int i : new int[] {2, 3, 6, 8, -1, LEAST, MOST}) {
            Bench.due("credential " + i, x.credential(0, i, 0), -1);
        }
        for (int k : new int[] {1, 3, -1, LEAST, MOST}) {
            Bench.due("key " + k, x.credential(k, 0, 0), -1);
        }
        Bench.wrap(x, 0, "a");
        Bench.due("a WRAP is none", x.credential(0, 2, 0), -1);
        Twins.refused(Twins::furnished, "credential", y -> y.credential(0, 2, 0), y -> y.credential(0, -1, 0),
            y -> y.credential(2, 0, 0), y -> y.credential(3, 0, 0));
    }

    @Sentence("Promise 17: of a key that is on")
    static void credentialOfOneThatIsOff() {
        PasskeyHouse x = Bench.house();
        int id = Bench.store(x, 0, "a", "1");
        x.power(0, false);
        for (int what = 0; what <= 4; what++) {
            Bench.due("off, what " + what, x.credential(0, 0, what), -1);
        }
        x.power(0, true);
        Bench.due("on", x.credential(0, 0, 0), id);
        x.power(0, false);
        x.power(0, true);
        x.press(0);
        Bench.due("RESET", Bench.send(x, 0, 7), 0);
        Bench.due("none", x.credential(0, 0, 0), -1);
    }
}
