/** The section "Terms", its boundary cases of bytes, addresses, pages and descriptors. */
final class EdgesTermsMapTest {
    private static final int[] NUMBERS = {
        0, 1, 127, 128, 255, 256, 257, 511, 512, 65535, 65536, 305419896, Integer.MAX_VALUE,
        -1, -127, -128, -129, -255, -256, -257, -65536, Integer.MIN_VALUE
    };
    private static final int[] BYTES = {
        0, 1, 127, 128, 255, 0, 1, 255, 0, 255, 0, 120, 255,
        255, 129, 128, 127, 1, 0, 255, 0, 0
    };

    public static void main(String[] args) {
        Check.sentence("of a number given for a byte its lowest eight bits count: deviceWrite, a ring",
            EdgesTermsMapTest::numbersWrittenToARing);
        Check.sentence("of a number given for a byte its lowest eight bits count: deviceWrite, a buffer",
            EdgesTermsMapTest::numbersWrittenToABuffer);
        Check.sentence("of a number given for a byte its lowest eight bits count: load",
            EdgesTermsMapTest::numbersLoaded);
        Check.sentence("of a number given for a byte its lowest eight bits count: an owner",
            EdgesTermsMapTest::numbersGivenForAnOwner);
        Check.sentence("of a number given for a byte its lowest eight bits count: a length",
            EdgesTermsMapTest::numbersGivenForALength);
        Check.sentence("FRAMES have 1 .. 16 bytes", EdgesTermsMapTest::shortestAndLongestFrame);
        Check.sentence("The card's ADDRESSES are 0 .. 383", EdgesTermsMapTest::firstAndLastAddress);
        Check.sentence("PAGE a is the 16 addresses from 16 * a on: a page to read",
            EdgesTermsMapTest::aPageToReadHasSixteenAddresses);
        Check.sentence("PAGE a is the 16 addresses from 16 * a on: a page to write",
            EdgesTermsMapTest::aPageToWriteHasSixteenAddresses);
        Check.sentence("the TRANSMIT RING, the RECEIVE RING: always open to the card, for reading and for writing",
            EdgesTermsMapTest::ringsAreAlwaysOpen);
        Check.sentence("(the rings are) all 0 at first", EdgesTermsMapTest::ringsAreZeroAtFirst);
        Check.sentence("Page 8 + k is open for reading only", EdgesTermsMapTest::transmitPagesAreForReadingOnly);
        Check.sentence("Page 8 + k is open while the slot is posted",
            EdgesTermsMapTest::transmitPagesAreOpenWhilePosted);
        Check.sentence("Page 16 + k is open for writing only", EdgesTermsMapTest::receivePagesAreForWritingOnly);
        Check.sentence("Page 16 + k is open while the slot is posted",
            EdgesTermsMapTest::receivePagesAreOpenWhilePosted);
        Check.sentence("DESCRIPTOR k of a ring is its eight bytes from 8 * k on",
            EdgesTermsMapTest::descriptorsHaveEightBytes);
        Check.sentence("the OWNER (0 the driver, else the card)", EdgesTermsMapTest::everyOwnerByte);
        Check.end();
    }

    private static void numbersWrittenToARing() {
        int[] places = {0, 63, 64, 127};
        for (int address : places) {
            RingDriver driver = new RingDriver();
            for (int i = 0; i < NUMBERS.length; i++) {
                Check.due("deviceWrite(.., " + NUMBERS[i] + ")", driver.deviceWrite(address, NUMBERS[i]), 0);
                Check.due("deviceRead of " + NUMBERS[i], driver.deviceRead(address), BYTES[i]);
            }
            Check.due("faults", driver.faults(), 0);
        }
    }

    private static void numbersWrittenToABuffer() {
        for (int i = 0; i < NUMBERS.length; i++) {
            RingDriver driver = new RingDriver();
            driver.post();
            Check.due("deviceWrite(.., " + NUMBERS[i] + ")", driver.deviceWrite(256, NUMBERS[i]), 0);
            Check.due("deviceWrite(.., " + NUMBERS[i] + ")", driver.deviceWrite(271, NUMBERS[i]), 0);
            Card.deliver(driver, 0, 16);
            Check.due("receive", driver.receive(), 16);
            Check.due("taken of " + NUMBERS[i], driver.taken(0), BYTES[i]);
            Check.due("the byte behind it", driver.taken(1), 0);
            Check.due("taken of " + NUMBERS[i], driver.taken(15), BYTES[i]);
        }
    }

    private static void numbersLoaded() {
        for (int i = 0; i < NUMBERS.length; i++) {
            RingDriver driver = new RingDriver();
            Check.due("load(0, " + NUMBERS[i] + ")", driver.load(0, NUMBERS[i]), true);
            Check.due("load(15, " + NUMBERS[i] + ")", driver.load(15, NUMBERS[i]), true);
            Check.due("send", driver.send(16), 0);
            Check.due("deviceRead of " + NUMBERS[i], driver.deviceRead(128), BYTES[i]);
            Check.due("the byte behind it", driver.deviceRead(129), 0);
            Check.due("deviceRead of " + NUMBERS[i], driver.deviceRead(143), BYTES[i]);
        }
    }

    private static void numbersGivenForAnOwner() {
        for (int i = 0; i < NUMBERS.length; i++) {
            boolean back = BYTES[i] == 0;
            RingDriver driver = new RingDriver();
            driver.send(1);
            driver.post();
            Card.setOwner(driver, Card.TRANSMIT_RING, 0, NUMBERS[i]);
            Card.setLength(driver, Card.RECEIVE_RING, 0, 1);
            Card.setOwner(driver, Card.RECEIVE_RING, 0, NUMBERS[i]);
            Check.due("reclaim at " + NUMBERS[i], driver.reclaim(), back ? 1 : 0);
            Check.due("receive at " + NUMBERS[i], driver.receive(), back ? 1 : -1);
        }
    }

    private static void numbersGivenForALength() {
        int[] lengths = {257, 272, -240, -255, 256, 273, -1, -256, Integer.MIN_VALUE + 2, Integer.MAX_VALUE};
        int[] answers = {1, 16, 16, 1, -3, -3, -3, -3, 2, -3};
        for (int i = 0; i < lengths.length; i++) {
            RingDriver driver = new RingDriver();
            driver.post();
            Card.deliver(driver, 0, lengths[i]);
            Check.due("receive at " + lengths[i], driver.receive(), answers[i]);
        }
    }

    private static void shortestAndLongestFrame() {
        int[] lengths = {1, 16};
        for (int length : lengths) {
            RingDriver driver = new RingDriver();
            Check.due("send(" + length + ")", driver.send(length), 0);
            Check.due("the frame's length", driver.deviceRead(1), length);
            driver.post();
            Card.deliver(driver, 0, length);
            Check.due("receive", driver.receive(), length);
        }
        RingDriver driver = new RingDriver();
        Check.due("send(0)", driver.send(0), -2);
        Check.due("send(17)", driver.send(17), -2);
        Card.postMany(driver, 2, 0);
        Card.deliver(driver, 0, 0);
        Card.deliver(driver, 1, 17);
        Check.due("receive of 0", driver.receive(), -3);
        Check.due("receive of 17", driver.receive(), -3);
    }

    private static void firstAndLastAddress() {
        RingDriver driver = new RingDriver();
        States.full(driver);
        Check.due("deviceRead(0)", driver.deviceRead(0), 8);
        Check.due("deviceWrite(0, 3)", driver.deviceWrite(0, 3), 0);
        Check.due("deviceWrite(383, 3)", driver.deviceWrite(383, 3), 0);
        Check.due("faults", driver.faults(), 0);
        Check.due("deviceRead(-1)", driver.deviceRead(-1), -1);
        Check.due("deviceWrite(-1, 3)", driver.deviceWrite(-1, 3), -1);
        Check.due("deviceRead(384)", driver.deviceRead(384), -1);
        Check.due("deviceWrite(384, 3)", driver.deviceWrite(384, 3), -1);
        Check.due("faults", driver.faults(), 4);
    }

    private static void aPageToReadHasSixteenAddresses() {
        for (int k = 0; k < 8; k++) {
            RingDriver driver = new RingDriver();
            States.startTransmitAt(driver, k);
            Card.loadAll(driver, 40);
            Check.due("send", driver.send(16), k);
            for (int address = 128; address < 384; address++) {
                int want = address / 16 == 8 + k ? 40 + address % 16 : -1;
                Check.due("slot " + k + ", deviceRead(" + address + ")", driver.deviceRead(address), want);
            }
        }
    }

    private static void aPageToWriteHasSixteenAddresses() {
        for (int k = 0; k < 8; k++) {
            RingDriver driver = new RingDriver();
            States.startReceiveAt(driver, k);
            Check.due("post", driver.post(), k);
            for (int address = 128; address < 384; address++) {
                int want = address / 16 == 16 + k ? 0 : -1;
                Check.due("slot " + k + ", deviceWrite(" + address + ")", driver.deviceWrite(address, address), want);
            }
            Card.deliver(driver, k, 16);
            Check.due("receive", driver.receive(), 16);
            for (int i = 0; i < 16; i++) {
                Check.due("slot " + k + ", taken(" + i + ")", driver.taken(i), (16 * k + i) & 255);
            }
        }
    }

    private static void ringsAreAlwaysOpen() {
        for (int state = 0; state < States.ALL.size(); state++) {
            RingDriver driver = new RingDriver();
            States.ALL.get(state).accept(driver);
            for (int address = 0; address < 128; address++) {
                String where = "state " + state + ", address " + address;
                Check.due(where + ", deviceWrite", driver.deviceWrite(address, 255 - address), 0);
                Check.due(where + ", deviceRead", driver.deviceRead(address), 255 - address);
            }
            Check.due("state " + state + ", faults", driver.faults(), 0);
        }
    }

    private static void ringsAreZeroAtFirst() {
        RingDriver driver = new RingDriver();
        for (int address = 0; address < 128; address++) {
            Check.due("deviceRead(" + address + ")", driver.deviceRead(address), 0);
        }
    }

    private static void transmitPagesAreForReadingOnly() {
        RingDriver driver = new RingDriver();
        States.full(driver);
        for (int address = 128; address < 256; address++) {
            Check.due("deviceWrite(" + address + ")", driver.deviceWrite(address, 99), -1);
            Check.due("deviceRead(" + address + ")", driver.deviceRead(address), 20 + address % 16);
        }
    }

    private static void transmitPagesAreOpenWhilePosted() {
        for (int k = 0; k < 8; k++) {
            RingDriver driver = new RingDriver();
            States.startTransmitAt(driver, k);
            Card.dueReadable(driver, k, false);
            Check.due("send", driver.send(1), k);
            Card.dueReadable(driver, k, true);
            Card.setOwner(driver, Card.TRANSMIT_RING, k, 0);
            Card.dueReadable(driver, k, true);
            Check.due("reclaim", driver.reclaim(), 1);
            Card.dueReadable(driver, k, false);
            int next = (k + 1) % 8;
            Check.due("send", driver.send(1), next);
            Card.dueReadable(driver, next, true);
            Check.due("revoke", driver.revoke(), 1);
            Card.dueReadable(driver, next, false);
        }
    }

    private static void receivePagesAreForWritingOnly() {
        RingDriver driver = new RingDriver();
        States.full(driver);
        for (int address = 256; address < 384; address++) {
            Check.due("deviceRead(" + address + ")", driver.deviceRead(address), -1);
            Check.due("deviceWrite(" + address + ")", driver.deviceWrite(address, 99), 0);
        }
    }

    private static void receivePagesAreOpenWhilePosted() {
        int[] lengths = {1, 16, 0, 17};
        for (int k = 0; k < 8; k++) {
            RingDriver driver = new RingDriver();
            States.startReceiveAt(driver, k);
            int slot = k;
            for (int length : lengths) {
                Card.dueWritable(driver, slot, false);
                Check.due("post", driver.post(), slot);
                Card.dueWritable(driver, slot, true);
                Card.deliver(driver, slot, length);
                Card.dueWritable(driver, slot, true);
                driver.receive();
                Card.dueWritable(driver, slot, false);
                slot = (slot + 1) % 8;
            }
            Check.due("post", driver.post(), slot);
            Check.due("withdraw", driver.withdraw(), 1);
            Card.dueWritable(driver, slot, false);
        }
    }

    private static void descriptorsHaveEightBytes() {
        for (int k = 0; k < 8; k++) {
            RingDriver sender = new RingDriver();
            States.startTransmitAt(sender, k);
            Card.scribbleOverRings(sender, 99);
            Check.due("send", sender.send(5), k);
            dueRings(sender, 8 * k, 8 + k, 5, 1, 0, 0, 0, 0, 0);
            RingDriver receiver = new RingDriver();
            States.startReceiveAt(receiver, k);
            Card.scribbleOverRings(receiver, 99);
            Check.due("post", receiver.post(), k);
            dueRings(receiver, 64 + 8 * k, 16 + k, 0, 1, 0, 0, 0, 0, 0);
        }
    }

    /** The descriptor has these bytes, and every other byte of both rings is 99. */
    private static void dueRings(RingDriver driver, int descriptor, int... bytes) {
        for (int address = 0; address < 128; address++) {
            boolean inside = address >= descriptor && address < descriptor + 8;
            int want = inside ? bytes[address - descriptor] : 99;
            Check.due("deviceRead(" + address + ")", driver.deviceRead(address), want);
        }
    }

    private static void everyOwnerByte() {
        for (int owner = 0; owner < 256; owner++) {
            RingDriver driver = new RingDriver();
            Card.sendMany(driver, 2, 0);
            Card.postMany(driver, 2, 0);
            Card.setOwner(driver, Card.TRANSMIT_RING, 0, owner);
            Card.deliver(driver, 0, 1);
            Card.setOwner(driver, Card.RECEIVE_RING, 0, owner);
            Check.due("withdraw, owner " + owner, driver.withdraw(), owner == 0 ? 1 : 2);
            Check.due("reclaim, owner " + owner, driver.reclaim(), owner == 0 ? 1 : 0);
            Check.due("revoke, owner " + owner, driver.revoke(), owner == 0 ? 1 : 2);
            Check.due("receive, owner " + owner, driver.receive(), owner == 0 ? 1 : -1);
        }
    }
}
