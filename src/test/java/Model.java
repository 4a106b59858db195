import java.util.ArrayList;
import java.util.Arrays;
import java.util.Collections;
import java.util.HashMap;
import java.util.List;
import java.util.Map;

/**
 * The document told a second time, as plainly as the Java library allows, for ModelTest to compare the class with.
 * It shares nothing with the class: what a key says is read from its flash each time that it is asked for.
 */
final class Model {

    static final int NONE = -1;
    static final int FOREIGN = -2;
    static final int SILENT = -3;

    final List<Integer> tape = new ArrayList<>();
    final List<List<Integer>> rows = new ArrayList<>();
    final List<Chip> chips = new ArrayList<>();
    final List<Person> people = new ArrayList<>();
    final List<Site> sites = new ArrayList<>();
    private final Map<List<Integer>, Integer> numbers = new HashMap<>();
    private int fresh = 0;
    private int secrets = 0;

    Model() {
        for (int i = 0; i < 4; i++) {
            people.add(new Person());
        }
    }

    // ---- terms

    static List<Integer> row(Object... parts) {
        List<Integer> all = new ArrayList<>();
        for (Object part : parts) {
            if (part instanceof Integer) {
                all.add((Integer) part);
            } else {
                for (Object v : (List<?>) part) {
                    all.add((Integer) v);
                }
            }
        }
        return all;
    }

    int term(Object... parts) {
        List<Integer> row = row(parts);
        Integer had = numbers.get(row);
        if (had != null) {
            return had;
        }
        rows.add(row);
        numbers.put(row, rows.size());
        return rows.size();
    }

    /** The number that a row has; 0 if it is no term. */
    int numberOf(Object... parts) {
        return numbers.getOrDefault(row(parts), 0);
    }

    int freshTerm() {
        return term(1, fresh++);
    }

    int secret() {
        return ++secrets;
    }

    List<Integer> rowOf(int term) {
        return term < 1 || term > rows.size() ? List.of(0) : rows.get(term - 1);
    }

    int secretOf(int term) {
        return rowOf(term).get(0) == 2 ? rowOf(term).get(1) : 0;
    }

    static List<Integer> agreed(int a, int b) {
        return row(3, Math.min(a, b), Math.max(a, b));
    }

    static List<Integer> big(long v, int n) {
        List<Integer> all = new ArrayList<>();
        for (int i = n - 1; i >= 0; i--) {
            all.add((int) (v >> (8 * i) & 255));
        }
        return all;
    }

    static List<Integer> four(int v) {
        return big(v, 4);
    }

    static int number(List<Integer> bytes) {
        int v = 0;
        for (int b : bytes) {
            v = v * 256 + b;
        }
        return v;
    }

    /** A term that four bytes are; 0 for other bytes. */
    static int asTerm(List<Integer> bytes) {
        return bytes.size() == 4 ? number(bytes) : 0;
    }

    static List<Integer> letters(String s) {
        List<Integer> all = new ArrayList<>();
        for (char c : s.toCharArray()) {
            all.add((int) c);
        }
        return all;
    }

    // ---- CBOR

    /** An item: of sort 0, 1 and 7 a number, of 2 and 3 bytes, of 4 and 5 parts (keys and items by turns). */
    record Item(int sort, long number, List<Integer> bytes, List<Item> parts) {

        List<Integer> encoded() {
            List<Integer> all = head(sort, sort == 5 ? parts.size() / 2 : sort == 4 ? parts.size() : sort == 2 || sort == 3
                ? bytes.size() : number);
            all.addAll(bytes);
            for (Item part : parts) {
                all.addAll(part.encoded());
            }
            return all;
        }

        boolean isCanonical(int depth) {
            if (parts.isEmpty() && sort != 4 && sort != 5) {
                return true;
            }
            if (depth == 0) {
                return false;
            }
            for (Item part : parts) {
                if (!part.isCanonical(depth - 1)) {
                    return false;
                }
            }
            for (int i = 0; sort == 5 && i < parts.size(); i += 2) {
                int keySort = parts.get(i).sort;
                if (keySort != 0 && keySort != 1 && keySort != 3 || i > 0 && !rises(parts.get(i - 2), parts.get(i))) {
                    return false;
                }
            }
            return true;
        }

        private static boolean rises(Item a, Item b) {
            List<Integer> one = a.encoded();
            List<Integer> two = b.encoded();
            if (a.sort != b.sort || one.size() != two.size()) {
                return a.sort != b.sort ? a.sort < b.sort : one.size() < two.size();
            }
            return Arrays.compare(one.stream().mapToInt(v -> v).toArray(), two.stream().mapToInt(v -> v).toArray()) < 0;
        }

        Item member(Object key) {
            List<Integer> want = key instanceof Integer ? head(0, (Integer) key) : row(head(3, ((String) key).length()), letters((String) key));
            for (int i = 0; sort == 5 && i < parts.size(); i += 2) {
                if (parts.get(i).encoded().equals(want)) {
                    return parts.get(i + 1);
                }
            }
            return null;
        }

        boolean is(boolean v) {
            return sort == 7 && number == (v ? 21 : 20);
        }

        boolean says(String text) {
            return sort == 3 && bytes.equals(letters(text));
        }
    }

    static List<Integer> head(int sort, long n) {
        int high = sort * 32;
        if (n < 24) {
            return row(high + (int) n);
        }
        return n < 256 ? row(high + 24, big(n, 1)) : n < 65536 ? row(high + 25, big(n, 2)) : row(high + 26, big(n, 4));
    }

    private static final class Reader {
        final List<Integer> bytes;
        int at = 0;

        Reader(List<Integer> bytes) {
            this.bytes = bytes;
        }

        /** The next item, told by as many bytes as it likes; null when there is none. */
        Item next(int depth) {
            if (at >= bytes.size() || depth > 50) {
                return null;
            }
            int head = bytes.get(at++);
            int sort = head / 32;
            long n = head % 32;
            if (n > 26 || sort == 6) {
                return null;
            }
            if (n >= 24) {
                int more = n == 24 ? 1 : n == 25 ? 2 : 4;
                if (at + more > bytes.size()) {
                    return null;
                }
                n = 0;
                for (int i = 0; i < more; i++) {
                    n = n * 256 + bytes.get(at++);
                }
            }
            if (n > 2147483647L || sort == 7 && n != 20 && n != 21) {
                return null;
            }
            List<Integer> content = new ArrayList<>();
            List<Item> parts = new ArrayList<>();
            for (long i = 0; (sort == 2 || sort == 3) && i < n; i++) {
                if (at >= bytes.size()) {
                    return null;
                }
                content.add(bytes.get(at++));
            }
            for (long i = 0; (sort == 4 && i < n) || (sort == 5 && i < 2 * n); i++) {
                Item part = next(depth + 1);
                if (part == null) {
                    return null;
                }
                parts.add(part);
            }
            return new Item(sort, sort == 0 || sort == 1 || sort == 7 ? n : 0, content, parts);
        }
    }

    /** The one canonical item that bytes are, or null. */
    static Item parsed(List<Integer> bytes) {
        Reader reader = new Reader(bytes);
        Item item = reader.next(0);
        boolean fine = item != null && reader.at == bytes.size() && item.encoded().equals(bytes) && item.isCanonical(4);
        return fine ? item : null;
    }

    static List<Integer> bytesItem(List<Integer> bytes) {
        return row(head(2, bytes.size()), bytes);
    }

    static List<Integer> textItem(String s) {
        return row(head(3, s.length()), letters(s));
    }

    // ---- keys

    /** Power failed before an act. */
    private static final class Dark extends Exception {
        private static final long serialVersionUID = 1L;
    }

    /** A command ends with a status. */
    private static final class Ends extends Exception {
        private static final long serialVersionUID = 1L;
        final transient int status;

        Ends(int status) {
            this.status = status;
        }
    }

    private static void endIf(boolean so, int status) throws Ends {
        if (so) {
            throw new Ends(status);
        }
    }

    record Stored(int id, int party, int secret, List<Integer> user, int count) {
        Stored counted(int many) {
            return new Stored(id, party, secret, user, many);
        }
    }

    /** What the records of an area say together. */
    static final class Said {
        int master;
        int pin;
        int tries = 8;
        int count;
        int end = 4;
        final List<Stored> stored = new ArrayList<>();
    }

    static int check(List<Integer> bytes) {
        int c = 0;
        for (int b : bytes) {
            c = (31 * c + b + 7) % 65536;
        }
        return c == 65535 ? 0 : c;
    }

    static List<Integer> record(int kind, Object... body) {
        List<Integer> bytes = row(body);
        List<Integer> all = row(kind, bytes.size(), bytes);
        return row(all, big(check(all), 2));
    }

    static List<Integer> record(Stored c) {
        return record(5, four(c.id), four(c.party), four(c.secret), c.user);
    }

    final class Chip {
        final int[] flash = new int[512];
        boolean on = true;
        int acts;
        int cut = NONE;
        int waiting;
        int taken;
        int answered;
        int agreeSecret;
        int token;
        int wrong;
        boolean commanded;
        List<Integer> answer = List.of();
        List<Stored> list;
        int listFlags;
        List<Integer> listHash;

        Chip() {
            Arrays.fill(flash, 255);
            List<Integer> first = row(0, 1, big(check(row(0, 1)), 2), record(1, four(freshTerm())));
            for (int i = 0; i < first.size(); i++) {
                flash[i] = first.get(i);
            }
            renew();
        }

        void renew() {
            agreeSecret = secret();
            token = secret();
            wrong = 0;
        }

        void act() throws Dark {
            if (cut == 0) {
                cut = NONE;
                on = false;
                throw new Dark();
            }
            cut -= cut > 0 ? 1 : 0;
            acts++;
        }

        private List<Integer> part(int from, int until) {
            List<Integer> all = new ArrayList<>();
            for (int i = from; i < until; i++) {
                all.add(flash[i]);
            }
            return all;
        }

        private int goodGeneration(int area) {
            List<Integer> header = part(area * 256, area * 256 + 4);
            return check(header.subList(0, 2)) == number(header.subList(2, 4)) ? number(header.subList(0, 2)) : NONE;
        }

        int area() {
            return goodGeneration(1) > goodGeneration(0) ? 1 : 0;
        }

        int generation() {
            return Math.max(goodGeneration(0), goodGeneration(1));
        }

        Said said() {
            return said(part(area() * 256, area() * 256 + 256));
        }

        private Said said(List<Integer> bytes) {
            Said all = new Said();
            while (all.end + 2 <= 256) {
                int kind = bytes.get(all.end);
                int n = bytes.get(all.end + 1);
                boolean good = (kind == 1 || kind == 2) && n == 4 || kind == 3 && n == 1 || kind == 4 && n == 8
                    || kind == 5 && n >= 13 && n <= 20;
                int checkAt = all.end + 2 + n;
                if (!good || checkAt + 2 > 256
                    || check(bytes.subList(all.end, checkAt)) != number(bytes.subList(checkAt, checkAt + 2))) {
                    break;
                }
                takeIn(all, kind, bytes.subList(all.end + 2, checkAt));
                all.end = checkAt + 2;
            }
            return all;
        }

        private void takeIn(Said all, int kind, List<Integer> body) {
            if (kind == 1) {
                all.master = number(body);
            } else if (kind == 2) {
                all.pin = number(body);
                all.tries = 8;
            } else if (kind == 3) {
                all.tries = body.get(0);
            } else if (kind == 4 && number(body.subList(0, 4)) == 0) {
                all.count = number(body.subList(4, 8));
            } else if (kind == 4) {
                all.stored.replaceAll(c -> c.id == number(body.subList(0, 4)) ? c.counted(number(body.subList(4, 8))) : c);
            } else {
                Stored made = new Stored(number(body.subList(0, 4)), number(body.subList(4, 8)), number(body.subList(8, 12)),
                    new ArrayList<>(body.subList(12, body.size())), 0);
                int place = place(all, made.party, made.user);
                if (place == NONE) {
                    all.stored.add(made);
                } else {
                    all.stored.set(place, made);
                }
            }
        }

        int place(Said all, int party, List<Integer> user) {
            for (int i = 0; i < all.stored.size(); i++) {
                if (all.stored.get(i).party == party && all.stored.get(i).user.equals(user)) {
                    return i;
                }
            }
            return NONE;
        }

        void move(Said what) throws Dark {
            int to = 1 - area();
            int generation = generation() + 1;
            for (int page = 0; page < 4; page++) {
                act();
                Arrays.fill(flash, to * 256 + page * 64, to * 256 + page * 64 + 64, 255);
            }
            List<Integer> all = new ArrayList<>(record(1, four(what.master)));
            if (what.pin != 0) {
                all.addAll(record(2, four(what.pin)));
            }
            if (what.tries != 8) {
                all.addAll(record(3, what.tries));
            }
            if (what.count != 0) {
                all.addAll(record(4, four(0), four(what.count)));
            }
            for (Stored c : what.stored) {
                all.addAll(record(c));
                if (c.count != 0) {
                    all.addAll(record(4, four(c.id), four(c.count)));
                }
            }
            lay(to * 256 + 4, all);
            lay(to * 256, row(big(generation, 2), big(check(big(generation, 2)), 2)));
        }

        void lay(int at, List<Integer> bytes) throws Dark {
            for (int i = 0; i < bytes.size(); i++) {
                act();
                flash[at + i] = bytes.get(i);
            }
        }

        void write(List<Integer> record) throws Dark {
            if (said().end + record.size() > 256) {
                move(said());
            }
            lay(area() * 256 + said().end, record);
        }

        void wake() {
            on = true;
            list = null;
            try {
                List<Integer> rest = part(area() * 256 + said().end, area() * 256 + 256);
                if (Collections.min(row(rest, 255)) != 255) {
                    move(said());
                }
                renew();
                commanded = false;
            } catch (Dark e) {
                on = false;
            }
        }

        boolean press() {
            if (waiting == 0) {
                return false;
            }
            waiting--;
            taken++;
            return true;
        }

        /** The status of a message, or SILENT. */
        int send(List<Integer> message) {
            answer = List.of();
            if (!on) {
                return SILENT;
            }
            try {
                if (!message.equals(List.of(8))) {
                    list = null;
                }
                answer = row(0, done(message));
            } catch (Ends e) {
                answer = List.of(e.status);
            } catch (Dark e) {
                answer = List.of();
                return SILENT;
            }
            commanded = true;
            answered++;
            return answer.get(0);
        }

        private List<Integer> done(List<Integer> message) throws Ends, Dark {
            endIf(message.isEmpty(), 3);
            int first = message.get(0);
            endIf(message.size() > 1 && (first == 4 || first == 7 || first == 8), 3);
            endIf(!List.of(1, 2, 4, 6, 7, 8).contains(first), 1);
            if (first == 4) {
                return info();
            }
            if (first == 7) {
                return reset();
            }
            if (first == 8) {
                endIf(list == null || list.isEmpty(), 48);
                Stored next = list.remove(0);
                return signed(next.party, next, 0, listHash, listFlags, 1);
            }
            Item map = parsed(message.subList(1, message.size()));
            endIf(map == null, 18);
            endIf(map.sort() != 5, 17);
            return first == 1 ? make(map) : first == 2 ? sign(map) : pin(map);
        }

        private boolean isSort(Item item, int... sorts) {
            return item == null || Arrays.stream(sorts).anyMatch(s -> s == item.sort());
        }

        private boolean isList(Item list, String name, int... sorts) {
            boolean good = isSort(list, 4);
            for (Item entry : good && list != null ? list.parts() : List.<Item>of()) {
                good = good && entry.sort() == 5 && isSort(entry.member(name), sorts) && isSort(entry.member("type"), 3);
            }
            return good;
        }

        private boolean isWhole(Item list, String name) {
            boolean whole = true;
            for (Item entry : list == null ? List.<Item>of() : list.parts()) {
                whole = whole && entry.member(name) != null && entry.member("type") != null;
            }
            return whole;
        }

        private Item within(Item map, String name) {
            return map == null || map.sort() != 5 ? null : map.member(name);
        }

        private boolean isOption(Item map, String name) {
            return isSort(map, 5) && isSort(within(map, name), 7) && isSort(within(map, "uv"), 7);
        }

        private boolean isTrue(Item map, String name) {
            return within(map, name) != null && within(map, name).is(true);
        }

        private boolean isOurs(Said said, List<Integer> id, int party) {
            int term = asTerm(id);
            for (Stored c : said.stored) {
                if (c.id == term && c.party == party) {
                    return true;
                }
            }
            List<Integer> row = rowOf(term);
            return row.get(0) == 8 && row.get(1) == said.master && row.get(2) == party;
        }

        private Item firstOurs(Said said, Item list, int party) {
            for (Item entry : list == null ? List.<Item>of() : list.parts()) {
                if (entry.member("type").says("public-key") && isOurs(said, entry.member("id").bytes(), party)) {
                    return entry;
                }
            }
            return null;
        }

        private void pinTest(Said said, Item mark, Item protocol, Item hash) throws Ends {
            if (mark.bytes().isEmpty()) {
                endIf(!press(), 39);
                endIf(said.pin != 0, 49);
                endIf(true, 53);
            }
            endIf(protocol == null || protocol.number() != 1, 51);
            endIf(said.pin == 0, 53);
            int want = numberOf(10, token, hash.bytes());
            endIf(want == 0 || asTerm(mark.bytes()) != want, 51);
        }

        private List<Integer> make(Item map) throws Ends, Dark {
            Item hash = map.member(1);
            Item name = within(map.member(2), "id");
            Item user = within(map.member(3), "id");
            Item options = map.member(7);
            boolean sorts = isSort(hash, 2) && isSort(map.member(2), 5) && isSort(name, 3) && isSort(map.member(3), 5) && isSort(user, 2)
                && isList(map.member(4), "alg", 0, 1) && isList(map.member(5), "id", 2) && isOption(options, "rk")
                && isSort(map.member(8), 2) && isSort(map.member(9), 0);
            endIf(!sorts, 17);
            endIf(hash == null || name == null || user == null || map.member(4) == null, 20);
            endIf(!isWhole(map.member(4), "alg") || !isWhole(map.member(5), "id"), 20);
            endIf(hash.bytes().size() != 4 || name.bytes().isEmpty() || name.bytes().size() > 24, 2);
            endIf(user.bytes().isEmpty() || user.bytes().size() > 8, 2);
            Said said = said();
            int party = numberOf(7, name.bytes());
            if (firstOurs(said, map.member(5), party) != null) {
                endIf(!press(), 39);
                endIf(true, 25);
            }
            boolean has = false;
            for (Item entry : map.member(4).parts()) {
                Item alg = entry.member("alg");
                has = has || entry.member("type").says("public-key") && alg.sort() == 1 && alg.number() == 6;
            }
            endIf(!has, 38);
            endIf(isTrue(options, "uv"), 43);
            if (map.member(8) != null) {
                pinTest(said, map.member(8), map.member(9), hash);
            } else {
                endIf(said.pin != 0, 54);
            }
            endIf(!press(), 39);
            boolean stays = isTrue(options, "rk");
            endIf(stays && !hasRoom(said, party, user.bytes()), 40);
            int s = secret();
            party = term(7, name.bytes());
            int id = stays ? freshTerm() : term(8, said.master, party, s);
            if (stays) {
                write(record(new Stored(id, party, s, user.bytes(), 0)));
            }
            List<Integer> data = row(four(party), map.member(8) != null ? 69 : 65, four(stays ? 0 : said.count), four(id), four(term(2, s)));
            int signature = term(6, s, data, hash.bytes());
            return row(head(5, 3), 1, textItem("packed"), 2, bytesItem(data), 3, head(5, 2), textItem("alg"), head(1, 6), textItem("sig"),
                bytesItem(four(signature)));
        }

        private boolean hasRoom(Said said, int party, List<Integer> user) {
            int place = place(said, party, user);
            int sum = 61 + 28 + user.size();
            for (int i = 0; i < said.stored.size(); i++) {
                sum += i == place ? 0 : 28 + said.stored.get(i).user.size();
            }
            return sum <= 256;
        }

        private List<Integer> sign(Item map) throws Ends, Dark {
            Item name = map.member(1);
            Item hash = map.member(2);
            Item options = map.member(5);
            boolean sorts = isSort(name, 3) && isSort(hash, 2) && isList(map.member(3), "id", 2) && isOption(options, "up")
                && isSort(map.member(6), 2) && isSort(map.member(7), 0);
            endIf(!sorts, 17);
            endIf(name == null || hash == null || !isWhole(map.member(3), "id"), 20);
            endIf(name.bytes().isEmpty() || name.bytes().size() > 24 || hash.bytes().size() != 4, 2);
            endIf(isTrue(options, "uv"), 43);
            Said said = said();
            if (map.member(6) != null) {
                pinTest(said, map.member(6), map.member(7), hash);
            }
            int party = numberOf(7, name.bytes());
            boolean listed = map.member(3) != null && !map.member(3).parts().isEmpty();
            Item chosen = listed ? firstOurs(said, map.member(3), party) : null;
            int id = chosen == null ? 0 : asTerm(chosen.member("id").bytes());
            List<Stored> candidates = new ArrayList<>();
            for (Stored c : said.stored) {
                if (c.party == party && (!listed || c.id == id)) {
                    candidates.add(0, c);
                }
            }
            endIf(listed ? chosen == null : candidates.isEmpty(), 46);
            int flags = map.member(6) != null ? 4 : 0;
            if (within(options, "up") == null || within(options, "up").is(true)) {
                endIf(!press(), 39);
                flags++;
            }
            int several = candidates.size();
            Stored first = candidates.isEmpty() ? null : candidates.remove(0);
            if (!listed) {
                list = candidates;
                listFlags = flags;
                listHash = hash.bytes();
            }
            return signed(party, first, id, hash.bytes(), flags, listed ? 0 : several);
        }

        /** Signs with a credential, or with a WRAP if it is null; many is 0 where the user is not told. */
        private List<Integer> signed(int party, Stored c, int wrap, List<Integer> hash, int flags, int many) throws Dark {
            int count = (c == null ? said().count : c.count) + 1;
            int id = c == null ? wrap : c.id;
            write(record(4, four(c == null ? 0 : id), four(count)));
            List<Integer> data = row(four(party), flags, four(count));
            int signature = term(6, c == null ? rowOf(wrap).get(3) : c.secret, data, hash);
            List<Integer> all = row(head(5, 3 + (many > 0 ? 1 : 0) + (many > 1 ? 1 : 0)), 1, head(5, 2), textItem("id"),
                bytesItem(four(id)), textItem("type"), textItem("public-key"), 2, bytesItem(data), 3, bytesItem(four(signature)));
            if (many > 0) {
                all = row(all, 4, head(5, 1), textItem("id"), bytesItem(c.user));
            }
            return many > 1 ? row(all, 5, many) : all;
        }

        private List<Integer> info() {
            return row(head(5, 5), 1, head(4, 1), textItem("FIDO_2_0"), 3, bytesItem(row(0, 0)), 4, head(5, 3), textItem("rk"), 0xf5,
                textItem("up"), 0xf5, textItem("clientPin"), said().pin != 0 ? 0xf5 : 0xf4, 5, head(0, 400), 6, head(4, 1), 1);
        }

        private List<Integer> reset() throws Ends, Dark {
            endIf(commanded, 48);
            endIf(!press(), 39);
            Said bare = new Said();
            bare.master = freshTerm();
            move(bare);
            renew();
            return List.of();
        }

        private List<Integer> pin(Item map) throws Ends, Dark {
            boolean sorts = isSort(map.member(1), 0) && isSort(map.member(2), 0);
            for (int i = 3; i <= 6; i++) {
                sorts = sorts && isSort(map.member(i), 2);
            }
            endIf(!sorts, 17);
            endIf(map.member(1) == null || map.member(2) == null, 20);
            long step = map.member(2).number();
            endIf(map.member(1).number() != 1 || step < 1 || step > 5, 2);
            Said said = said();
            if (step == 1) {
                return row(head(5, 1), 3, said.tries);
            }
            if (step == 2) {
                return row(head(5, 1), 1, bytesItem(four(term(2, agreeSecret))));
            }
            endIf(map.member(3) == null, 20);
            endIf(step != 5 && (map.member(4) == null || map.member(5) == null), 20);
            endIf(step != 3 && map.member(6) == null, 20);
            int other = secretOf(asTerm(map.member(3).bytes()));
            endIf(other == 0, 2);
            int shared = numberOf(agreed(agreeSecret, other));
            if (step == 3) {
                endIf(said.pin != 0, 51);
                endIf(!isMac(shared, map.member(4), map.member(5).bytes()), 51);
                newPin(shared, map.member(5));
                return List.of();
            }
            endIf(said.pin == 0, 53);
            endIf(said.tries == 0, 50);
            endIf(wrong >= 3, 52);
            if (step == 4) {
                endIf(!isMac(shared, map.member(4), row(map.member(5).bytes(), map.member(6).bytes())), 51);
            }
            attempt(said, shared, map.member(6));
            if (step == 4) {
                newPin(shared, map.member(5));
                return List.of();
            }
            return row(head(5, 1), 2, bytesItem(four(term(9, shared, token))));
        }

        private boolean isMac(int shared, Item mac, List<Integer> of) {
            int want = shared == 0 ? 0 : numberOf(5, shared, of);
            return want != 0 && asTerm(mac.bytes()) == want;
        }

        private void attempt(Said said, int shared, Item six) throws Ends, Dark {
            write(record(3, said.tries - 1));
            int want = shared == 0 ? 0 : numberOf(4, shared, four(said.pin));
            if (want != 0 && asTerm(six.bytes()) == want) {
                write(record(3, 8));
                wrong = 0;
                return;
            }
            agreeSecret = secret();
            wrong++;
            endIf(said.tries == 1, 50);
            endIf(wrong == 3, 52);
            endIf(true, 49);
        }

        private void newPin(int shared, Item five) throws Ends, Dark {
            List<Integer> row = rowOf(asTerm(five.bytes()));
            boolean good = shared != 0 && row.get(0) == 4 && row.get(1) == shared && row.size() >= 6 && row.size() <= 14;
            endIf(!good, 55);
            write(record(2, four(term(7, row.subList(2, row.size())))));
        }
    }

    // ---- hands

    static final class Person {
        int secret;
        int agreed;
        int token;
        List<Integer> pin = List.of();
        List<Integer> page = List.of();
    }

    private static boolean isRight(List<Integer> name, List<Integer> page) {
        List<Integer> behind = row(46, name);
        int from = page.size() - behind.size();
        return name.equals(page) || from >= 0 && page.subList(from, page.size()).equals(behind);
    }

    // ---- parties

    record Ask(int challenge, List<Integer> user, int kind, boolean pin) {
    }

    static final class Member {
        List<Integer> user;
        int id;
        int publicTerm;
        int count;
        int logins;
    }

    final class Site {
        List<Integer> origin;
        List<Integer> name;
        final List<Ask> asks = new ArrayList<>();
        final List<Member> members = new ArrayList<>();
        int took;
        int others;

        int judged(List<Integer> all) {
            Response r = response(all);
            if (r == null) {
                return 1;
            }
            Ask ask = null;
            for (Ask a : asks) {
                ask = a.challenge == r.challenge && a.kind == r.kind ? a : ask;
            }
            if (ask == null) {
                return 2;
            }
            asks.remove(ask);
            if (!r.origin.equals(origin)) {
                return 3;
            }
            boolean create = r.kind == 1;
            if (r.data.size() != (create ? 17 : 9)) {
                return 4;
            }
            int hash = numberOf(7, name);
            if (hash == 0 || number(r.data.subList(0, 4)) != hash) {
                return 5;
            }
            int flags = r.data.get(4);
            if (flags % 2 == 0 || create && flags / 64 % 2 == 0) {
                return 6;
            }
            if (ask.pin && flags / 4 % 2 == 0) {
                return 7;
            }
            return create ? joined(r, ask) : entered(r, ask);
        }

        private boolean isSigned(Response r, int secret) {
            int hash = numberOf(7, r.kind, four(r.challenge), r.origin);
            int want = hash == 0 ? 0 : numberOf(6, secret, r.data, four(hash));
            return want != 0 && want == r.signature;
        }

        private Member withId(int id) {
            for (Member m : members) {
                if (m.id == id) {
                    return m;
                }
            }
            return null;
        }

        private int joined(Response r, Ask ask) {
            int last = number(r.data.subList(13, 17));
            if (secretOf(last) == 0 || number(r.data.subList(9, 13)) != r.id || !isSigned(r, secretOf(last))) {
                return 8;
            }
            if (withId(r.id) != null) {
                return 9;
            }
            if (members.size() == 8) {
                return 10;
            }
            Member m = new Member();
            m.user = ask.user;
            m.id = r.id;
            m.publicTerm = last;
            m.count = number(r.data.subList(5, 9));
            members.add(m);
            return 0;
        }

        private int entered(Response r, Ask ask) {
            Member m = withId(r.id);
            if (m == null || !m.user.equals(ask.user)) {
                return 11;
            }
            if (!isSigned(r, secretOf(m.publicTerm))) {
                return 8;
            }
            int count = number(r.data.subList(5, 9));
            if (Integer.compareUnsigned(count, m.count) <= 0 && (count != 0 || m.count != 0)) {
                return 12;
            }
            m.count = count;
            m.logins++;
            return 0;
        }
    }

    record Response(int kind, int challenge, List<Integer> origin, int id, List<Integer> data, int signature) {
    }

    /** Reads bytes as a response; null if they are none. */
    static Response response(List<Integer> all) {
        if (all.size() < 6 || all.get(0) != 1 && all.get(0) != 2) {
            return null;
        }
        int idAt = 6 + all.get(5);
        if (all.size() < idAt + 5) {
            return null;
        }
        int end = idAt + 5 + all.get(idAt + 4);
        if (all.size() != end + 4) {
            return null;
        }
        return new Response(all.get(0), number(all.subList(1, 5)), all.subList(6, idAt), number(all.subList(idAt, idAt + 4)),
            all.subList(idAt + 5, end), number(all.subList(end, end + 4)));
    }

    // ---- the calls

    private static <T> T of(List<T> all, int i) {
        return i < 0 || i >= all.size() ? null : all.get(i);
    }

    private static boolean within(int v, int least, int most) {
        return least <= v && v <= most;
    }

    private static int or(Integer v) {
        return v == null ? NONE : v;
    }

    /** The first n bytes of the tape (all for NONE), or null. */
    private List<Integer> first(int n) {
        return n < NONE || n > tape.size() ? null : new ArrayList<>(tape.subList(0, n == NONE ? tape.size() : n));
    }

    private int replaceTape(List<Integer> bytes) {
        List<Integer> all = new ArrayList<>(bytes);
        tape.clear();
        tape.addAll(all);
        return tape.size();
    }

    int feed(long w, int n) {
        if (!within(n, 1, 8) || tape.size() + n > 400) {
            return NONE;
        }
        tape.addAll(big(w, n));
        return tape.size();
    }

    int wipe() {
        int had = tape.size();
        tape.clear();
        return had;
    }

    int at(int i) {
        return or(of(tape, i));
    }

    int poke(int i, int v) {
        return of(tape, i) == null || !within(v, 0, 255) ? NONE : tape.set(i, v);
    }

    int terms() {
        return rows.size();
    }

    int sort(int term) {
        return term < 1 || term > rows.size() ? NONE : rowOf(term).get(0);
    }

    int key() {
        if (chips.size() == 3) {
            return NONE;
        }
        chips.add(new Chip());
        return chips.size() - 1;
    }

    boolean power(int key, boolean on) {
        Chip c = of(chips, key);
        if (c == null) {
            return false;
        }
        if (on && !c.on) {
            c.wake();
        } else {
            c.on = on;
        }
        return c.on;
    }

    int press(int key) {
        Chip c = of(chips, key);
        return c == null || c.waiting == 9 ? NONE : ++c.waiting;
    }

    boolean cut(int key, int acts) {
        Chip c = of(chips, key);
        if (c == null || !within(acts, NONE, 2000)) {
            return false;
        }
        c.cut = acts;
        return true;
    }

    int command(int key, int n) {
        Chip c = of(chips, key);
        if (c == null || first(n) == null) {
            return NONE;
        }
        return c.send(first(n)) == SILENT ? SILENT : c.answer.size();
    }

    int answer(int key, int i) {
        Chip c = of(chips, key);
        return c == null ? NONE : or(of(c.answer, i));
    }

    int take(int key) {
        Chip c = of(chips, key);
        return c == null || c.answer.isEmpty() ? NONE : replaceTape(c.answer);
    }

    int flash(int key, int i) {
        Chip c = of(chips, key);
        return c == null || !within(i, 0, 511) ? NONE : c.flash[i];
    }

    int told(int key, int what) {
        Chip c = of(chips, key);
        if (c == null || !within(what, 0, c.on ? 11 : 4)) {
            return NONE;
        }
        Said said = c.said();
        int[] all = {c.on ? 1 : 0, c.acts, c.waiting, c.taken, c.answered, c.generation(), c.area(), said.end, said.stored.size(),
            said.tries, said.pin != 0 ? 1 : 0, said.count};
        return all[what];
    }

    int credential(int key, int i, int what) {
        Chip c = of(chips, key);
        Stored s = c == null || !c.on ? null : of(c.said().stored, i);
        return s == null ? NONE : or(of(row(s.id, s.party, s.count, s.user.size(), s.user), what));
    }

    int own(int hand) {
        Person p = of(people, hand);
        if (p == null) {
            return NONE;
        }
        p.secret = secret();
        p.agreed = 0;
        p.token = 0;
        return term(2, p.secret);
    }

    boolean agree(int hand, int term) {
        Person p = of(people, hand);
        if (p == null || p.secret == 0 || secretOf(term) == 0) {
            return false;
        }
        p.agreed = term(agreed(p.secret, secretOf(term)));
        return true;
    }

    int seal(int hand, int what, int n) {
        Person p = of(people, hand);
        List<Integer> bytes = first(n);
        if (p == null || bytes == null || !within(what, 0, 4)) {
            return NONE;
        }
        if (what == 0) {
            return term(7, bytes);
        }
        int by = what < 3 ? p.agreed : what == 3 ? p.token : p.secret;
        return by == 0 ? NONE : term(what == 1 ? 4 : what == 2 ? 5 : what == 3 ? 10 : 6, by, bytes);
    }

    int open(int hand, int term) {
        Person p = of(people, hand);
        List<Integer> row = rowOf(term);
        return p == null || p.agreed == 0 || row.get(0) != 4 || row.get(1) != p.agreed ? NONE : replaceTape(row.subList(2, row.size()));
    }

    boolean token(int hand, int term) {
        Person p = of(people, hand);
        List<Integer> row = rowOf(term);
        if (p == null || p.agreed == 0 || row.get(0) != 9 || row.get(1) != p.agreed) {
            return false;
        }
        p.token = row.get(2);
        return true;
    }

    boolean pin(int hand, int n) {
        if (of(people, hand) == null || !within(n, 0, 12) || first(n) == null) {
            return false;
        }
        of(people, hand).pin = first(n);
        return true;
    }

    boolean page(int hand, int n) {
        if (of(people, hand) == null || !within(n, 0, 40) || first(n) == null) {
            return false;
        }
        of(people, hand).page = first(n);
        return true;
    }

    private static List<Integer> member(int key, int term) {
        return row(key, bytesItem(four(term)));
    }

    /** AGREEING: the status of its message. */
    private int agreeing(int hand, Chip c) {
        own(hand);
        int status = c.send(row(6, head(5, 2), 1, 1, 2, 2));
        if (status == 0) {
            agree(hand, number(c.answer.subList(4, 8)));
        }
        return status;
    }

    int setPin(int hand, int key) {
        Person p = of(people, hand);
        Chip c = of(chips, key);
        if (p == null || c == null) {
            return NONE;
        }
        int status = agreeing(hand, c);
        if (status != 0) {
            return status;
        }
        int five = term(4, p.agreed, p.pin);
        int four = term(5, p.agreed, four(five));
        return c.send(row(6, head(5, 5), 1, 1, 2, 3, member(3, term(2, p.secret)), member(4, four), member(5, five)));
    }

    int changePin(int hand, int key, int n) {
        Person p = of(people, hand);
        Chip c = of(chips, key);
        if (p == null || c == null || !within(n, 0, 12) || first(n) == null) {
            return NONE;
        }
        int status = agreeing(hand, c);
        if (status != 0) {
            return status;
        }
        int five = term(4, p.agreed, first(n));
        int six = term(4, p.agreed, four(term(7, p.pin)));
        int four = term(5, p.agreed, four(five), four(six));
        return c.send(row(6, head(5, 6), 1, 1, 2, 4, member(3, term(2, p.secret)), member(4, four), member(5, five), member(6, six)));
    }

    int unlock(int hand, int key) {
        Person p = of(people, hand);
        Chip c = of(chips, key);
        if (p == null || c == null) {
            return NONE;
        }
        int status = agreeing(hand, c);
        if (status != 0) {
            return status;
        }
        int six = term(4, p.agreed, four(term(7, p.pin)));
        status = c.send(row(6, head(5, 4), 1, 1, 2, 5, member(3, term(2, p.secret)), member(6, six)));
        if (status == 0) {
            token(hand, number(c.answer.subList(4, 8)));
        }
        return status;
    }

    private boolean isClient(int hand, int key, int party, int m, int n) {
        return of(people, hand) != null && of(chips, key) != null && (party == NONE || of(sites, party) != null) && within(n, 1, 24)
            && n <= tape.size() && within(m, 1, 8);
    }

    private int challenge(int challenge, int party) {
        Site site = of(sites, party);
        return challenge != 0 || site == null || site.asks.isEmpty() ? challenge : site.asks.get(site.asks.size() - 1).challenge;
    }

    /** The entries for the accounts of a user at a party, behind the key of the member; nothing when there are none. */
    private List<Integer> entries(int key, int party, List<Integer> user) {
        Site site = of(sites, party);
        List<Integer> all = new ArrayList<>();
        int many = 0;
        for (Member m : site == null ? List.<Member>of() : site.members) {
            if (m.user.equals(user)) {
                many++;
                all.addAll(row(head(5, 2), textItem("id"), bytesItem(four(m.id)), textItem("type"), textItem("public-key")));
            }
        }
        return many == 0 ? all : row(key, head(4, many), all);
    }

    private List<Integer> mark(int key, Person p, int hash, boolean wanted) {
        return wanted && p.token != 0 ? row(member(key, term(10, p.token, four(hash))), key + 1, 1) : List.of();
    }

    int create(int hand, int key, int challenge, int party, long w, int m, int n, int how) {
        if (!isClient(hand, key, party, m, n) || !within(how, 0, 7)) {
            return NONE;
        }
        Person p = of(people, hand);
        Chip c = of(chips, key);
        if (!isRight(first(n), p.page)) {
            return FOREIGN;
        }
        int asked = challenge(challenge, party);
        int hash = term(7, 1, four(asked), p.page);
        List<Integer> five = how / 4 % 2 == 1 ? List.of() : entries(5, party, big(w, m));
        List<Integer> seven = how % 2 == 1 ? row(7, head(5, 1), textItem("rk"), 0xf5) : List.of();
        List<Integer> eight = mark(8, p, hash, how / 2 % 2 == 1);
        int many = 4 + (five.isEmpty() ? 0 : 1) + (seven.isEmpty() ? 0 : 1) + (eight.isEmpty() ? 0 : 2);
        int status = c.send(row(1, head(5, many), member(1, hash), 2, head(5, 1), textItem("id"), head(3, n), first(n), 3, head(5, 1),
            textItem("id"), bytesItem(big(w, m)), 4, head(4, 1), head(5, 2), textItem("alg"), head(1, 6), textItem("type"),
            textItem("public-key"), five, seven, eight));
        if (status == 0) {
            Item said = parsed(c.answer.subList(1, c.answer.size()));
            List<Integer> data = said.member(2).bytes();
            replaceTape(row(1, four(asked), p.page.size(), p.page, data.subList(9, 13), data.size(), data,
                said.member(3).member("sig").bytes()));
        }
        return status;
    }

    int get(int hand, int key, int challenge, int party, long w, int m, int n, int how) {
        if (!isClient(hand, key, party, m, n) || !within(how, 0, 15)) {
            return NONE;
        }
        Person p = of(people, hand);
        Chip c = of(chips, key);
        if (!isRight(first(n), p.page)) {
            return FOREIGN;
        }
        int asked = challenge(challenge, party);
        int status;
        if (how / 4 % 2 == 1) {
            status = c.send(row(8));
        } else {
            int hash = term(7, 2, four(asked), p.page);
            List<Integer> three = how / 8 % 2 == 1 ? List.of() : entries(3, party, big(w, m));
            List<Integer> five = how % 2 == 1 ? row(5, head(5, 1), textItem("up"), 0xf4) : List.of();
            List<Integer> six = mark(6, p, hash, how / 2 % 2 == 1);
            int many = 2 + (three.isEmpty() ? 0 : 1) + (five.isEmpty() ? 0 : 1) + (six.isEmpty() ? 0 : 2);
            status = c.send(row(2, head(5, many), 1, head(3, n), first(n), member(2, hash), three, five, six));
        }
        if (status == 0) {
            Item said = parsed(c.answer.subList(1, c.answer.size()));
            List<Integer> data = said.member(2).bytes();
            replaceTape(row(2, four(asked), p.page.size(), p.page, said.member(1).member("id").bytes(), data.size(), data,
                said.member(3).bytes()));
        }
        return status;
    }

    int party(int n, int m) {
        if (sites.size() == 4 || !within(n, 1, 40) || !within(m, 1, 24) || n + m > tape.size()
            || !isRight(tape.subList(n, n + m), tape.subList(0, n))) {
            return NONE;
        }
        Site site = new Site();
        site.origin = first(n);
        site.name = new ArrayList<>(tape.subList(n, n + m));
        sites.add(site);
        return sites.size() - 1;
    }

    int offer(int party, long w, int m, boolean get, boolean pin) {
        Site site = of(sites, party);
        if (site == null || !within(m, 1, 8) || site.asks.size() == 4) {
            return NONE;
        }
        Ask ask = new Ask(freshTerm(), big(w, m), get ? 2 : 1, pin);
        site.asks.add(ask);
        return ask.challenge;
    }

    int judge(int party, int n) {
        Site site = of(sites, party);
        if (site == null || first(n) == null) {
            return NONE;
        }
        int why = site.judged(first(n));
        site.took += why == 0 ? 1 : 0;
        site.others += why == 0 ? 0 : 1;
        return why;
    }

    int withdraw(int party) {
        Site site = of(sites, party);
        if (site == null) {
            return NONE;
        }
        int had = site.asks.size();
        site.asks.clear();
        return had;
    }

    int account(int party, int i, int what) {
        Site site = of(sites, party);
        if (site == null) {
            return NONE;
        }
        if (i == NONE) {
            return or(of(row(site.members.size(), site.asks.size(), site.took, site.others), what));
        }
        Member m = of(site.members, i);
        return m == null ? NONE : or(of(row(m.id, m.publicTerm, m.count, m.logins, m.user.size(), m.user), what));
    }
}
