/** Promise 5, its boundary cases. */
final class Edges05LoadTest {
    public static void main(String[] args) {
        Check.sentence("Byte i of the out box becomes v: the first and the last", Edges05LoadTest::firstAndLast);
        Check.sentence("Byte i of the out box becomes v: that one and no other", Edges05LoadTest::noOtherByte);
        Check.sentence("false if i is not 0 .. 15", Edges05LoadTest::wrongPlaces);
        Check.sentence("false if i is not 0 .. 15: then no byte becomes v",
            Edges05LoadTest::wrongPlacesChangeNothing);
        Check.sentence("the out box alone changes: no buffer, no ring and no in box",
            Edges05LoadTest::nothingElseChanges);
        Check.end();
    }

    private static void firstAndLast() {
        RingDriver driver = new RingDriver();
        Check.due("load(0, 5)", driver.load(0, 5), true);
        Check.due("load(15, 6)", driver.load(15, 6), true);
        Check.due("send", driver.send(16), 0);
        Check.due("byte 0", driver.deviceRead(128), 5);
        Check.due("byte 15", driver.deviceRead(143), 6);
    }

    private static void noOtherByte() {
        for (int place = 0; place < 16; place++) {
            RingDriver driver = new RingDriver();
            Card.loadAll(driver, 1);
            Check.due("load", driver.load(place, 99), true);
            Check.due("send", driver.send(16), 0);
            for (int i = 0; i < 16; i++) {
                Check.due("byte " + i, driver.deviceRead(128 + i), i == place ? 99 : 1 + i);
            }
        }
    }

    private static void wrongPlaces() {
        RingDriver driver = new RingDriver();
        for (int n = 1; n <= 40; n++) {
            Check.due("load(" + -n + ")", driver.load(-n, 9), false);
            Check.due("load(" + (15 + n) + ")", driver.load(15 + n, 9), false);
        }
        for (int bit = 4; bit < 32; bit++) {
            Check.due("load(1 << " + bit + ")", driver.load(1 << bit, 9), false);
            Check.due("load(MAX - " + bit + ")", driver.load(Integer.MAX_VALUE - bit, 9), false);
        }
        Check.due("load(MIN)", driver.load(Integer.MIN_VALUE, 9), false);
        Check.due("load(MAX)", driver.load(Integer.MAX_VALUE, 9), false);
    }

    private static void wrongPlacesChangeNothing() {
        for (int place : Card.WRONG_PLACES) {
            Twins.unchangedBy("load(" + place + ", 99)", States.ALL, driver -> driver.load(place, 99));
        }
    }

    /** Loaded with what stands there already, no byte of the box changes, and nothing else does. */
    private static void nothingElseChanges() {
        Twins.unchangedBy("load(0, 0)", States.ALL.subList(0, 1), driver -> driver.load(0, 0));
        Twins.unchangedBy("load(15, 0)", States.ALL.subList(0, 1), driver -> driver.load(15, 0));
        RingDriver driver = new RingDriver();
        States.full(driver);
        Card.loadAll(driver, 220);
        for (int address = 128; address < 256; address++) {
            Check.due("deviceRead(" + address + ")", driver.deviceRead(address), 20 + address % 16);
        }
        for (int k = 0; k < 8; k++) {
            Card.dueDescriptor(driver, Card.TRANSMIT_RING, k, 8 + k, 16, 1, 0, 0, 0, 0, 0);
        }
        Card.dueInBox(driver);
        Card.deliver(driver, 0, 16);
        Check.due("receive", driver.receive(), 16);
        Check.due("taken(0)", driver.taken(0), 70);
        Check.due("taken(15)", driver.taken(15), 85);
    }
}
