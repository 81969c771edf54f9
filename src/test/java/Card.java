/** Plays the card, and brings a driver into states that tests start from. */
final class Card {
    static final int TRANSMIT_RING = 0;
    static final int RECEIVE_RING = 64;
    static final int TRANSMIT_BUFFERS = 128;
    static final int RECEIVE_BUFFERS = 256;
    static final int ADDRESSES = 384;
    static final int[] WRONG_PLACES = {
        -1, 16, 17, -16, 256, 65536, Integer.MIN_VALUE, Integer.MAX_VALUE
    };
    static final int[] WRONG_ADDRESSES = {
        -1, -16, -128, -384, 384, 385, 512, 65536, Integer.MIN_VALUE, Integer.MAX_VALUE
    };

    private Card() {
    }

    static int ownerAddress(int ring, int slot) {
        return ring + 8 * slot + 2;
    }

    static int lengthAddress(int ring, int slot) {
        return ring + 8 * slot + 1;
    }

    static void setOwner(RingDriver driver, int ring, int slot, int owner) {
        Check.due("the card sets an owner", driver.deviceWrite(ownerAddress(ring, slot), owner), 0);
    }

    static void setLength(RingDriver driver, int ring, int slot, int length) {
        Check.due("the card sets a length", driver.deviceWrite(lengthAddress(ring, slot), length), 0);
    }

    static void loadAll(RingDriver driver, int firstValue) {
        for (int i = 0; i < 16; i++) {
            Check.due("load", driver.load(i, firstValue + i), true);
        }
    }

    /** Posts so many transmit slots, which are expected from the given slot on. */
    static void sendMany(RingDriver driver, int number, int firstSlot) {
        for (int i = 0; i < number; i++) {
            Check.due("send", driver.send(16), (firstSlot + i) % 8);
        }
    }

    /** Posts so many receive slots, which are expected from the given slot on. */
    static void postMany(RingDriver driver, int number, int firstSlot) {
        for (int i = 0; i < number; i++) {
            Check.due("post", driver.post(), (firstSlot + i) % 8);
        }
    }

    static void fillReceiveBuffer(RingDriver driver, int slot, int firstValue) {
        for (int i = 0; i < 16; i++) {
            int address = RECEIVE_BUFFERS + 16 * slot + i;
            Check.due("the card fills a buffer", driver.deviceWrite(address, firstValue + i), 0);
        }
    }

    /** Gives the slot back with a length, as a card does that has put a frame there. */
    static void deliver(RingDriver driver, int slot, int length) {
        setLength(driver, RECEIVE_RING, slot, length);
        setOwner(driver, RECEIVE_RING, slot, 0);
    }

    static void scribbleOverRings(RingDriver driver, int value) {
        for (int address = 0; address < TRANSMIT_BUFFERS; address++) {
            Check.due("the card scribbles", driver.deviceWrite(address, value), 0);
        }
    }

    static void dueDescriptor(RingDriver driver, int ring, int slot, int... bytes) {
        for (int i = 0; i < bytes.length; i++) {
            int address = ring + 8 * slot + i;
            Check.due("descriptor byte " + address, driver.deviceRead(address), bytes[i]);
        }
    }

    static void dueReadable(RingDriver driver, int slot, boolean open) {
        int from = TRANSMIT_BUFFERS + 16 * slot;
        Check.due("first byte readable, slot " + slot, driver.deviceRead(from) != -1, open);
        Check.due("last byte readable, slot " + slot, driver.deviceRead(from + 15) != -1, open);
    }

    /** Writes zeros where the slot is open. */
    static void dueWritable(RingDriver driver, int slot, boolean open) {
        int from = RECEIVE_BUFFERS + 16 * slot;
        int answer = open ? 0 : -1;
        Check.due("first byte writable, slot " + slot, driver.deviceWrite(from, 0), answer);
        Check.due("last byte writable, slot " + slot, driver.deviceWrite(from + 15, 0), answer);
    }

    static void dueInBox(RingDriver driver, int... bytes) {
        for (int i = 0; i < 16; i++) {
            int want = i < bytes.length ? bytes[i] : 0;
            Check.due("taken(" + i + ")", driver.taken(i), want);
        }
    }
}
