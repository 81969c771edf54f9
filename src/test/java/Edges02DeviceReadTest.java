/** Promise 2, its boundary cases. */
final class Edges02DeviceReadTest {
    public static void main(String[] args) {
        Check.sentence("The card reads a byte: 0 and 255, of a ring and of a buffer",
            Edges02DeviceReadTest::smallestAndGreatestByte);
        Check.sentence("-1, a fault, if there is no such address: below 0", Edges02DeviceReadTest::belowZero);
        Check.sentence("-1, a fault, if there is no such address: above 383", Edges02DeviceReadTest::above383);
        Check.sentence("-1, a fault, if there is no such address: far away", Edges02DeviceReadTest::farAway);
        Check.sentence("-1, a fault, if its page is not open for reading: a slot that is not posted",
            Edges02DeviceReadTest::beforeAndBehindThePosted);
        Check.sentence("-1, a fault, if its page is not open for reading: a slot that is closed",
            Edges02DeviceReadTest::closedSlots);
        Check.sentence("-1, a fault, if its page is not open for reading: a receive buffer",
            Edges02DeviceReadTest::receiveBuffers);
        Check.sentence("a read changes nothing but the number of faults",
            Edges02DeviceReadTest::readingChangesNothing);
        Check.end();
    }

    private static void smallestAndGreatestByte() {
        RingDriver driver = new RingDriver();
        Check.due("a 0 in a ring", driver.deviceRead(0), 0);
        driver.deviceWrite(0, 255);
        Check.due("a 255 in a ring", driver.deviceRead(0), 255);
        driver.load(0, 255);
        driver.send(2);
        Check.due("a 255 in a buffer", driver.deviceRead(128), 255);
        Check.due("a 0 in a buffer", driver.deviceRead(129), 0);
        Check.due("faults", driver.faults(), 0);
    }

    private static void dueFault(RingDriver driver, int address) {
        int faults = driver.faults();
        Check.due("deviceRead(" + address + ")", driver.deviceRead(address), -1);
        Check.due("faults after deviceRead(" + address + ")", driver.faults(), faults + 1);
    }

    private static void belowZero() {
        for (int n = 1; n <= 640; n++) {
            RingDriver driver = new RingDriver();
            States.full(driver);
            dueFault(driver, -n);
        }
    }

    private static void above383() {
        for (int address = 384; address < 1024; address++) {
            RingDriver driver = new RingDriver();
            States.full(driver);
            dueFault(driver, address);
        }
    }

    /** Addresses that a mask, a remainder or a narrower number would take for good ones. */
    private static void farAway() {
        RingDriver driver = new RingDriver();
        States.full(driver);
        for (int bit = 9; bit < 32; bit++) {
            dueFault(driver, 1 << bit);
            dueFault(driver, (1 << bit) + 130);
            dueFault(driver, Integer.MIN_VALUE + bit);
            dueFault(driver, Integer.MAX_VALUE - bit);
        }
        dueFault(driver, Integer.MIN_VALUE);
        dueFault(driver, Integer.MAX_VALUE);
    }

    private static void beforeAndBehindThePosted() {
        for (int first = 0; first < 8; first++) {
            for (int number = 0; number < 8; number++) {
                RingDriver driver = new RingDriver();
                States.startTransmitAt(driver, first);
                Card.sendMany(driver, number, first);
                for (int place = number; place < 8; place++) {
                    int page = 8 + (first + place) % 8;
                    dueFault(driver, 16 * page);
                    dueFault(driver, 16 * page + 15);
                }
                for (int place = 0; place < number; place++) {
                    Card.dueReadable(driver, (first + place) % 8, true);
                }
            }
        }
    }

    private static void closedSlots() {
        RingDriver driver = new RingDriver();
        States.full(driver);
        Card.setOwner(driver, Card.TRANSMIT_RING, 0, 0);
        Check.due("reclaim", driver.reclaim(), 1);
        dueFault(driver, 128);
        dueFault(driver, 143);
        Check.due("the next page is open", driver.deviceRead(144), 20);
        Check.due("revoke", driver.revoke(), 7);
        dueFault(driver, 144);
        dueFault(driver, 255);
    }

    private static void receiveBuffers() {
        RingDriver driver = new RingDriver();
        States.full(driver);
        for (int address = 256; address < 384; address++) {
            dueFault(driver, address);
        }
    }

    private static void readingChangesNothing() {
        int[] faulty = {-1, 384, 256, 271, 383, Integer.MIN_VALUE, Integer.MAX_VALUE};
        for (int address : faulty) {
            Twins.unchangedBut(1, "deviceRead(" + address + ")", States.ALL,
                driver -> driver.deviceRead(address));
        }
        int[] good = {0, 2, 63, 64, 66, 127};
        for (int address : good) {
            Twins.unchangedBy("deviceRead(" + address + ")", States.ALL,
                driver -> driver.deviceRead(address));
        }
        Twins.unchangedBy("deviceRead(128)", States.FULL, driver -> driver.deviceRead(128));
        Twins.unchangedBut(1, "deviceRead(128)", States.EMPTY, driver -> driver.deviceRead(128));
    }
}
