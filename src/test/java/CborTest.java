/** Promise 12, CBOR: what is canonical is taken, all else is answered by 18. */
public final class CborTest {

    private static final PasskeyHouse X = new PasskeyHouse();

    public static void main(String[] args) {
        X.key();
        numbers();
        strings();
        nesting();
        mapKeys();
        whole();
        Bench.end();
    }

    /** An item as the value of a member that is passed over. */
    private static void canonical(boolean so, String item) {
        int got = Bench.send(X, 0, 6, Bench.hex("a3 0101 0201 07" + item));
        Bench.due("status for item " + item, got, so ? 0 : 18);
    }

    private static void numbers() {
        for (String item : new String[] {"00", "17", "1818", "18ff", "190100", "19ffff", "1a00010000", "1a7fffffff", "20",
            "37", "3818", "390100", "3a7fffffff", "f4", "f5"}) {
            canonical(true, item);
        }
        for (String item : new String[] {"1800", "1817", "190000", "1900ff", "1a00000000", "1a0000ffff", "1a80000000",
            "1affffffff", "1b0000000100000000", "1b0000000000010000", "1c", "1d", "1e", "1f", "3817", "3900ff", "3a80000000", "3b0000000100000000",
            "f0", "f3", "f6", "f7", "f814", "f815", "f820", "f90000", "fa00000000", "ff", "c0", "d818", "c000", "d81800", "da0001000000",
            "e0", "18", "1901", "1a000100", ""}) {
            canonical(false, item);
        }
    }

    private static void strings() {
        String many = "00".repeat(24);
        for (String item : new String[] {"40", "41ff", "57" + "00".repeat(23), "5818" + many, "60", "61ff", "7818" + many,
            "590100" + "00".repeat(256)}) {
            canonical(true, item);
        }
        for (String item : new String[] {"41", "61", "4100" + "00", "5817" + "00".repeat(23), "5818" + "00".repeat(23),
            "590018" + many, "5b0000000000010000", "5a7fffffff", "5f", "7f", "7fff", "5fff", "590100" + "00".repeat(255)}) {
            canonical(false, item);
        }
    }

    private static void nesting() {
        for (String item : new String[] {"80", "8100", "8400010203", "a0", "a10000", "8180", "818180", "81818100", "a100a100a10000",
            "8281810081" + "8100", "83808080", "9818" + "00".repeat(24)}) {
            canonical(true, item);
        }
        for (String item : new String[] {"81", "82" + "00", "a1", "a100", "81818180", "818181a0", "a100a100a100a0", "a100a100a10080",
            "9f", "9fff", "bf", "bfff", "9a7fffffff", "ba7fffffff", "9817" + "00".repeat(23), "80" + "00", "8161", "810000"}) {
            canonical(false, item);
        }
        Bench.due("four arrays", Bench.send(X, 0, 6, Bench.hex("81818180")), 17);
        Bench.due("five arrays", Bench.send(X, 0, 6, Bench.hex("8181818180")), 18);
    }

    private static void mapKeys() {
        for (String item : new String[] {"a200000100", "a217001818" + "00", "a218ff0019010000", "a200002000", "a220002100",
            "a22000616100", "a200006000", "a2616100616200", "a261620062616100", "a26000616100", "a2600061" + "0000",
            "a2370038" + "1800", "a300002000" + "6000"}) {
            canonical(true, item);
        }
        for (String item : new String[] {"a201000000", "a200000000", "a2181800" + "1700", "a220000000", "a220002000", "a221002000",
            "a2616100" + "0000", "a261610020" + "00", "a2616200616100", "a2616100616100", "a262616100616200", "a14000", "a1410000",
            "a18000", "a1a000", "a1f400", "a1f500", "a2190100" + "0018ff00"}) {
            canonical(false, item);
        }
    }

    private static void whole() {
        Bench.due("no item", Bench.send(X, 0, 6), 18);
        Bench.due("no item for 1", Bench.send(X, 0, 1), 18);
        Bench.due("no item for 2", Bench.send(X, 0, 2), 18);
        Bench.due("an item", Bench.send(X, 0, 6, Bench.hex("a201010201")), 0);
        Bench.due("a byte behind it", Bench.send(X, 0, 6, Bench.hex("a20101020100")), 18);
        Bench.due("a byte too few", Bench.send(X, 0, 6, Bench.hex("a2010102")), 18);
        for (String item : new String[] {"00", "20", "40", "60", "80", "f5"}) {
            Bench.due("no map", Bench.send(X, 0, 1, Bench.hex(item)), 17);
            Bench.due("no map", Bench.send(X, 0, 2, Bench.hex(item)), 17);
            Bench.due("no map", Bench.send(X, 0, 6, Bench.hex(item)), 17);
        }
        Bench.due("a full tape of one item", Bench.send(X, 0, 6, Bench.hex("a301010201075901" + "86" + "00".repeat(390))), 0);
        Bench.due("all items there can be", Bench.send(X, 0, 6, Bench.hex("a301010201079901" + "86" + "00".repeat(390))), 0);
        Bench.due("one that is missing", Bench.send(X, 0, 6, Bench.hex("a301010201079901" + "87" + "00".repeat(390))), 18);
    }
}
