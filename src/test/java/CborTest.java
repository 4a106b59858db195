/** Promise 12, == CBOR: what is canonical is taken, all else is answered by 18. */
public final class CborTest {

    public static void main(String[] args) {
        Bench.run(CborTest.class);
    }

    /** These are canonical, or not, as the value of a member that is passed over. */
    private static void canonical(boolean so, String... items) {
        for (String item : items) {
            PasskeyHouse x = new PasskeyHouse();
            x.key();
            int got = Bench.send(x, 0, 6, Bench.hex("a3 0101 0201 07" + item));
            Bench.due("status for item " + item, got, so ? 0 : 18);
        }
    }

    private static void status(String what, int want, Object... message) {
        PasskeyHouse x = new PasskeyHouse();
        x.key();
        Bench.due(what, Bench.send(x, 0, message), want);
        Bench.holds(what + ": the status alone", want == 0 || Bench.answers(x, 0, want));
    }

    /** The number of tries, asked for with this as member 1 (which must be 1) or 2. */
    private static void number(String item, int want) {
        status("1 is " + item, want, 6, Bench.hex("a2 01" + item + "0201"));
    }

    @Sentence("CBOR (promise 12): x: 0 .. 23 are the number itself")
    static void smallNumbers() {
        canonical(true, "00", "01", "16", "17");
        number("01", 0);
        number("00", 2);
        number("17", 2);
    }

    @Sentence("CBOR (promise 12): 24: it is in the next byte")
    static void oneByte() {
        canonical(true, "1818", "18ff", "3818", "38ff");
        canonical(false, "18", "38");
    }

    @Sentence("CBOR (promise 12): 25: it is in the next 2 bytes, the highest first")
    static void twoBytes() {
        canonical(true, "190100", "19ffff", "390100", "39ffff", "19ff00");
        canonical(false, "19", "1901", "39", "3901", "190001");
        canonical(true, "590100" + "00".repeat(256));
        canonical(false, "590001" + "00".repeat(256), "590001" + "00");
    }

    @Sentence("CBOR (promise 12): 26: it is in the next 4 bytes, the highest first")
    static void fourBytes() {
        canonical(true, "1a00010000", "1a01000000", "3a00010000");
        canonical(false, "1a", "1a00", "1a0001", "1a000100", "3a000100", "1a00000100");
    }

    @Sentence("CBOR (promise 12): 26: not above 2147483647")
    static void greatest() {
        canonical(true, "1a7fffffff", "3a7fffffff");
        canonical(false, "1a80000000", "1a80000001", "1affffffff", "3a80000000", "3affffffff");
    }

    @Sentence("CBOR (promise 12): other x are none")
    static void otherX() {
        canonical(false, "1b0000000100000000", "1b0000000000010000", "1b0000000000000001", "1c", "1d", "1e", "1f");
        canonical(false, "3b0000000100000000", "3c", "3d", "3e", "3f", "5b0000000000010000", "5c", "5f", "5fff", "5f4100ff");
        canonical(false, "7b0000000000000001", "7c", "7f", "7fff", "9b0000000000000001", "9c", "9f", "9fff", "bb0000000000000001",
            "bc", "bf", "bfff");
    }

    @Sentence("CBOR (promise 12): sort 1: it, negative, less 1")
    static void negatives() {
        canonical(true, "20", "37", "3818", "390100", "3a7fffffff");
        String make = "a4 01 4400000001 02 a1 6269646161 03 a1 626964 4161 04 81 a2 63616c67 %s 6474797065 6a7075626c69632d6b6579";
        status("-7", 39, 1, Bench.hex(String.format(make, "26")));
        status("-6", 38, 1, Bench.hex(String.format(make, "25")));
        status("-8", 38, 1, Bench.hex(String.format(make, "27")));
        status("7", 38, 1, Bench.hex(String.format(make, "07")));
        status("6", 38, 1, Bench.hex(String.format(make, "06")));
        status("a number of four bytes", 38, 1, Bench.hex(String.format(make, "3a7fffffff")));
    }

    @Sentence("CBOR (promise 12): sort 2: so many BYTES")
    static void byteStrings() {
        canonical(true, "40", "41ff", "57" + "00".repeat(23), "5818" + "00".repeat(24), "58ff" + "00".repeat(255));
        canonical(false, "41", "4100" + "00", "4200", "57" + "00".repeat(22), "5818" + "00".repeat(23), "5818" + "00".repeat(25),
            "590100" + "00".repeat(255), "5a7fffffff", "5a00010000" + "00".repeat(300));
    }

    @Sentence("CBOR (promise 12): sort 3: so many bytes of a TEXT (any bytes)")
    static void texts() {
        canonical(true, "60", "6100", "61ff", "6180", "62c328", "63ffffff", "7818" + "80".repeat(24), "790100" + "ff".repeat(256));
        canonical(false, "61", "6261", "6100" + "00", "7818" + "00".repeat(23), "7a7fffffff");
    }

    @Sentence("CBOR (promise 12): sort 4: an ARRAY of so many items")
    static void arrays() {
        canonical(true, "80", "8100", "8400010203", "97" + "00".repeat(23), "9818" + "00".repeat(24), "83808080");
        canonical(false, "81", "8200", "810000", "8161", "9818" + "00".repeat(23), "9a7fffffff", "9a00010000" + "00".repeat(300));
    }

    @Sentence("CBOR (promise 12): sort 5: a MAP of so many pairs")
    static void maps() {
        canonical(true, "a0", "a10000", "a200000100", "a100a0");
        canonical(false, "a1", "a100", "a2000001", "a20000", "a1000000", "ba7fffffff", "b818" + "00".repeat(48));
        StringBuilder pairs = new StringBuilder();
        for (int i = 0; i < 24; i++) {
            pairs.append(String.format("%02x00", i));
        }
        canonical(true, "b818" + pairs.substring(0, 92) + "181800");
        canonical(true, "b7" + pairs.substring(0, 92));
        canonical(false, "b817" + pairs.substring(0, 92));
    }

    @Sentence("CBOR (promise 12): each pair a KEY (of sort 0, 1 or 3)")
    static void keySorts() {
        canonical(true, "a10000", "a12000", "a16000", "a1616100", "a1181800", "a1381800", "a1" + "7818" + "61".repeat(24) + "00");
        canonical(false, "a14000", "a1410000", "a18000", "a1a000", "a1f400", "a1f500", "a1c000", "a1810000", "a2000040" + "00");
    }

    @Sentence("CBOR (promise 12): sort 7 with 20 false, 21 true; all others are not CBOR here")
    static void simple() {
        canonical(true, "f4", "f5");
        canonical(false, "e0", "f0", "f3", "f6", "f7", "f814", "f815", "f818", "f820", "f8ff", "f90000", "fa00000000",
            "fb0000000000000000", "ff");
    }

    @Sentence("CBOR (promise 12): sort 6 is none")
    static void tags() {
        canonical(false, "c0", "c000", "d700", "d81800", "d9010000", "da0001000000", "c6");
    }

    @Sentence("CBOR (promise 12): CANONICAL when numbers are told by as few bytes as may be")
    static void fewestBytes() {
        canonical(false, "1800", "1817", "190000", "1900ff", "1a00000000", "1a0000ffff", "1a000000ff", "1a00000017");
        canonical(false, "3800", "3817", "3900ff", "3a0000ffff");
        canonical(true, "17", "1818", "18ff", "190100", "19ffff", "1a00010000");
    }

    @Sentence("CBOR (promise 12): as few bytes as may be, for lengths too")
    static void fewestBytesOfLengths() {
        canonical(false, "5800", "5817" + "00".repeat(23), "590018" + "00".repeat(24), "5900ff" + "00".repeat(255),
            "5a00000100" + "00".repeat(256), "7800", "7817" + "00".repeat(23), "790018" + "00".repeat(24));
        canonical(false, "9800", "9817" + "00".repeat(23), "990018" + "00".repeat(24), "b800", "b8010000", "b900010000", "ba000000010000");
        canonical(false, "a118170" + "0", "a1190018" + "00", "a1780161" + "00");
    }

    @Sentence("CBOR (promise 12): keys of each map rise: those of a lesser sort first")
    static void keysBySort() {
        canonical(true, "a200002000", "a200006000", "a220006000", "a3000020006000", "a2190100002000", "a23a7fffffff006000");
        canonical(false, "a220000000", "a260000000", "a260002000", "a2616100" + "0000", "a261610020" + "00", "a2200019010000",
            "a3000060002000");
    }

    @Sentence("CBOR (promise 12): of the same sort those with fewer bytes in all")
    static void keysBySize() {
        canonical(true, "a2170018" + "1800", "a218ff0019010000", "a219ffff001a0001000000", "a26000616100", "a261620062616100",
            "a261ff00620000" + "00", "a237003818" + "00", "a277" + "7a".repeat(23) + "007818" + "61".repeat(24) + "00");
        canonical(false, "a218180017" + "00", "a2190100" + "0018ff00", "a262616100616200", "a2616100" + "6000", "a23818003700",
            "a27818" + "61".repeat(24) + "0077" + "7a".repeat(23) + "00");
    }

    @Sentence("CBOR (promise 12): of the same the lesser bytes")
    static void keysByBytes() {
        canonical(true, "a200000100", "a2616100616200", "a2616100" + "617a00", "a2617f00618000", "a2610000" + "61ff00",
            "a2626161006261" + "6200", "a2181800181900", "a219010000190101" + "00", "a21901ff0019020000", "a220002100");
        canonical(false, "a201000000", "a2616200616100", "a2618000617f00", "a261ff00610000", "a262616200626161" + "00",
            "a2181900181800", "a219020000" + "1901ff00", "a221002000");
    }

    @Sentence("CBOR (promise 12): keys rise, so that none comes twice")
    static void keysTwice() {
        canonical(false, "a200000000", "a217001700", "a2181800181800", "a220002000", "a260006000", "a2616100616100");
        status("member 1 twice", 18, 6, Bench.hex("a3 0101 0101 0201"));
    }

    @Sentence("CBOR (promise 12): keys of each map rise, of one within too")
    static void keysWithin() {
        canonical(true, "a100a200000100", "81a200000100", "a200a200000100" + "0100");
        canonical(false, "a100a201000000", "81a201000000", "81a200000000", "8200a22000" + "0000");
    }

    @Sentence("CBOR (promise 12): no more than 4 arrays and maps lie in one another")
    static void nesting() {
        canonical(true, "8180", "818180", "81818100", "a100a100a10000", "a100818100", "81a100a0", "8281810081" + "8100", "838080" + "8180");
        canonical(false, "81818180", "818181a0", "a100a100a100a0", "a100a100a10080", "8100" + "00", "82" + "00" + "81818180");
        status("four arrays", 17, 6, Bench.hex("81818180"));
        status("four arrays and a number", 17, 6, Bench.hex("8181818100"));
        status("five arrays", 18, 6, Bench.hex("8181818180"));
        status("five arrays and a number", 18, 6, Bench.hex("818181818100"));
        status("four maps", 20, 6, Bench.hex("a107a107a107a0"));
        status("five maps", 18, 6, Bench.hex("a107a107a107a107a0"));
        status("a hundred arrays", 18, 6, Bench.hex("81".repeat(100) + "00"));
        status("a full tape of arrays", 18, 6, Bench.hex("81".repeat(399)));
        status("a full tape of maps", 18, 6, Bench.hex("a100".repeat(199)));
    }

    @Sentence("CBOR (promise 12): arrays and maps beside one another do not lie in one another")
    static void beside() {
        canonical(true, "86808080808080", "828181" + "00" + "818100", "a300810001a00280");
        status("of many arrays none is deep", 17, 6, Bench.hex("9818" + "80".repeat(24)));
    }

    @Sentence("COMMANDS (promise 12): 18: what follows is not one canonical item and no more")
    static void oneItem() {
        for (int first : new int[] {1, 2, 6}) {
            status("no item", 18, first);
            status("a head that is cut short", 18, first, Bench.hex("a1"));
            status("two items", 18, first, Bench.hex("a0a0"));
            status("a byte behind", 18, first, Bench.hex("a000"));
            status("an item", 20, first, Bench.hex("a0"));
        }
        status("an item", 0, 6, Bench.hex("a201010201"));
        status("a byte behind it", 18, 6, Bench.hex("a20101020100"));
        status("a byte too few", 18, 6, Bench.hex("a2010102"));
    }

    @Sentence("COMMANDS (promise 12): 18 goes before 17 of a member")
    static void notCborFirst() {
        status("17 alone", 17, 6, Bench.hex("a2 0160 0201"));
        status("17, and a byte behind", 18, 6, Bench.hex("a2 0160 0201 00"));
        status("no map, and a byte behind", 18, 6, Bench.hex("8000"));
        status("17, and keys that do not rise", 18, 6, Bench.hex("a3 0160 0301 0201"));
    }

    @Sentence("COMMANDS (promise 12): 17: it is no map")
    static void noMap() {
        for (int first : new int[] {1, 2, 6}) {
            for (String item : new String[] {"00", "20", "40", "60", "80", "f4", "f5", "1a7fffffff", "8101", "4101"}) {
                status("item " + item, 17, first, Bench.hex(item));
            }
        }
    }

    @Sentence("CBOR (promise 12): an item as long as the tape, and as many items as there may be")
    static void fullTape() {
        status("400 bytes", 0, 6, Bench.hex("a3010102010759" + "0186" + "00".repeat(390)));
        status("a byte of it too few", 18, 6, Bench.hex("a3010102010759" + "0186" + "00".repeat(389)));
        status("390 items", 0, 6, Bench.hex("a3010102010799" + "0186" + "00".repeat(390)));
        status("one that is missing", 18, 6, Bench.hex("a3010102010799" + "0187" + "00".repeat(390)));
        status("as many for MAKE", 17, 1, Bench.hex("99018c" + "00".repeat(396)));
        status("as many for SIGN", 17, 2, Bench.hex("99018c" + "20".repeat(396)));
    }
}
