/** The example of README.md, call by call. */
public final class ExampleTest {

    public static void main(String[] args) {
        PasskeyHouse house = new PasskeyHouse();
        int key = house.key();
        house.feed(0x612e6578616d706cL, 8);
        house.page(0, 8);
        house.feed(0x6578616d706cL, 6);
        int party = house.party(8, 6);
        Bench.due("party", party, 0);

        house.offer(party, 7L, 1, false, false);
        house.press(key);
        house.wipe();
        house.feed(0x6578616d706cL, 6);
        Bench.due("create", house.create(0, key, 0, party, 7L, 1, 6, 1), 0);
        Bench.due("judge", house.judge(party, PasskeyHouse.NONE), 0);

        house.offer(party, 7L, 1, true, false);
        house.press(key);
        house.wipe();
        house.feed(0x6578616d706cL, 6);
        Bench.due("get", house.get(0, key, 0, party, 7L, 1, 6, 0), 0);
        Bench.due("judge", house.judge(party, PasskeyHouse.NONE), 0);
        Bench.due("account", house.account(party, 0, 3), 1);

        house.wipe();
        house.feed(0x31323334L, 4);
        house.pin(0, 4);
        Bench.due("setPin", house.setPin(0, key), 0);
        Bench.due("unlock", house.unlock(0, key), 0);
        Bench.end();
    }
}
