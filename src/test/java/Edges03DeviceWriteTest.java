/** Promise 3, its boundary cases. */
final class Edges03DeviceWriteTest {
    public static void main(String[] args) {
        Check.sentence("The card puts a byte: 0, whatever the byte", Edges03DeviceWriteTest::anyByteAnswersZero);
        Check.sentence("The card puts a byte: that one and no other", Edges03DeviceWriteTest::noOtherByteChanges);
        Check.sentence("-1, a fault, if there is no such address: below 0", Edges03DeviceWriteTest::belowZero);
        Check.sentence("-1, a fault, if there is no such address: above 383", Edges03DeviceWriteTest::above383);
        Check.sentence("-1, a fault, if there is no such address: far away", Edges03DeviceWriteTest::farAway);
        Check.sentence("-1, a fault, if its page is not open for writing: a slot that is not posted",
            Edges03DeviceWriteTest::beforeAndBehindThePosted);
        Check.sentence("-1, a fault, if its page is not open for writing: a slot that is closed",
            Edges03DeviceWriteTest::closedSlots);
        Check.sentence("-1, a fault, if its page is not open for writing: a transmit buffer",
            Edges03DeviceWriteTest::transmitBuffers);
        Check.sentence("(nothing is put): no such address", Edges03DeviceWriteTest::nothingIsPutOutside);
        Check.sentence("(nothing is put): a page that is not open",
            Edges03DeviceWriteTest::nothingIsPutInClosedPages);
        Check.sentence("(nothing is put): a transmit buffer", Edges03DeviceWriteTest::nothingIsPutInAFrame);
        Check.end();
    }

    private static void anyByteAnswersZero() {
        int[] values = {0, 1, 255, 256, -1, Integer.MIN_VALUE, Integer.MAX_VALUE};
        int[] places = {0, 63, 64, 127, 256, 383};
        RingDriver driver = new RingDriver();
        Card.postMany(driver, 8, 0);
        for (int address : places) {
            for (int value : values) {
                Check.due("deviceWrite(" + address + ", " + value + ")", driver.deviceWrite(address, value), 0);
            }
        }
        Check.due("faults", driver.faults(), 0);
    }

    private static void noOtherByteChanges() {
        for (int put = 0; put < 128; put++) {
            RingDriver driver = new RingDriver();
            Check.due("deviceWrite(" + put + ")", driver.deviceWrite(put, 77), 0);
            for (int address = 0; address < 128; address++) {
                int want = address == put ? 77 : 0;
                Check.due(put + " put, deviceRead(" + address + ")", driver.deviceRead(address), want);
            }
        }
        for (int put = 0; put < 16; put++) {
            RingDriver driver = new RingDriver();
            driver.post();
            driver.deviceWrite(256 + put, 77);
            Card.deliver(driver, 0, 16);
            Check.due("receive", driver.receive(), 16);
            for (int i = 0; i < 16; i++) {
                Check.due(put + " put, taken(" + i + ")", driver.taken(i), i == put ? 77 : 0);
            }
        }
    }

    private static void dueFault(RingDriver driver, int address) {
        int faults = driver.faults();
        Check.due("deviceWrite(" + address + ")", driver.deviceWrite(address, 77), -1);
        Check.due("faults after deviceWrite(" + address + ")", driver.faults(), faults + 1);
    }

    private static void belowZero() {
        for (int n = 1; n <= 640; n++) {
            RingDriver driver = new RingDriver();
            States.full(driver);
            dueFault(driver, -n);
        }
    }

    private static void above383() {
        for (int address = 384; address < 1024; address++) {
            RingDriver driver = new RingDriver();
            States.full(driver);
            dueFault(driver, address);
        }
    }

    /** Addresses that a mask, a remainder or a narrower number would take for good ones. */
    private static void farAway() {
        RingDriver driver = new RingDriver();
        States.full(driver);
        for (int bit = 9; bit < 32; bit++) {
            dueFault(driver, 1 << bit);
            dueFault(driver, (1 << bit) + 300);
            dueFault(driver, Integer.MIN_VALUE + bit);
            dueFault(driver, Integer.MAX_VALUE - bit);
        }
        dueFault(driver, Integer.MIN_VALUE);
        dueFault(driver, Integer.MAX_VALUE);
    }

    private static void beforeAndBehindThePosted() {
        for (int first = 0; first < 8; first++) {
            for (int number = 0; number < 8; number++) {
                RingDriver driver = new RingDriver();
                States.startReceiveAt(driver, first);
                Card.postMany(driver, number, first);
                for (int place = number; place < 8; place++) {
                    int page = 16 + (first + place) % 8;
                    dueFault(driver, 16 * page);
                    dueFault(driver, 16 * page + 15);
                }
                for (int place = 0; place < number; place++) {
                    Card.dueWritable(driver, (first + place) % 8, true);
                }
            }
        }
    }

    private static void closedSlots() {
        RingDriver driver = new RingDriver();
        States.full(driver);
        Card.deliver(driver, 0, 16);
        Check.due("receive", driver.receive(), 16);
        dueFault(driver, 256);
        dueFault(driver, 271);
        Check.due("the next page is open", driver.deviceWrite(272, 1), 0);
        Card.deliver(driver, 1, 17);
        driver.receive();
        dueFault(driver, 272);
        dueFault(driver, 287);
        Check.due("withdraw", driver.withdraw(), 6);
        dueFault(driver, 288);
        dueFault(driver, 383);
    }

    private static void transmitBuffers() {
        RingDriver driver = new RingDriver();
        States.full(driver);
        for (int address = 128; address < 256; address++) {
            dueFault(driver, address);
        }
    }

    private static void nothingIsPutOutside() {
        int[] outside = {
            -1, -16, -128, -256, -319, -384, 384, 385, 448, 450, 512, 640, 768, 65536,
            Integer.MIN_VALUE, Integer.MIN_VALUE + 66, Integer.MAX_VALUE
        };
        for (int address : outside) {
            Twins.unchangedBut(1, "deviceWrite(" + address + ", 0)", States.ALL,
                driver -> driver.deviceWrite(address, 0));
            Twins.unchangedBut(1, "deviceWrite(" + address + ", 77)", States.ALL,
                driver -> driver.deviceWrite(address, 77));
        }
    }

    private static void nothingIsPutInClosedPages() {
        for (int k = 0; k < 8; k++) {
            int first = 256 + 16 * k;
            Twins.unchangedBut(1, "deviceWrite(" + first + ", 77)", States.EMPTY,
                driver -> driver.deviceWrite(first, 77));
            Twins.unchangedBut(1, "deviceWrite(" + (first + 15) + ", 77)", States.EMPTY,
                driver -> driver.deviceWrite(first + 15, 77));
        }
    }

    private static void nothingIsPutInAFrame() {
        for (int k = 0; k < 8; k++) {
            int first = 128 + 16 * k;
            Twins.unchangedBut(1, "deviceWrite(" + first + ", 77)", States.ALL,
                driver -> driver.deviceWrite(first, 77));
            Twins.unchangedBut(1, "deviceWrite(" + (first + 15) + ", 77)", States.ALL,
                driver -> driver.deviceWrite(first + 15, 77));
        }
    }
}
