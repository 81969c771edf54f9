final class Promise06SendTest {
    public static void main(String[] args) {
        aFrameIsPostedWithItsLength();
        wrongLengthsAreRefused();
        theNinthFrameIsRefused();
        noOldBytesStandBehindAFrame();
        slotsGoRoundTheRing();
        Check.end();
    }

    private static void aFrameIsPostedWithItsLength() {
        RingDriver driver = new RingDriver();
        Card.loadAll(driver, 100);
        int[] lengths = {1, 16, 7};
        for (int slot = 0; slot < lengths.length; slot++) {
            Check.due("send", driver.send(lengths[slot]), slot);
            Check.due("sending", driver.sending(), slot + 1);
            Card.dueDescriptor(driver, Card.TRANSMIT_RING, slot, 8 + slot, lengths[slot], 1, 0, 0, 0, 0, 0);
            for (int i = 0; i < 16; i++) {
                int want = i < lengths[slot] ? 100 + i : 0;
                Check.due("byte " + i, driver.deviceRead(128 + 16 * slot + i), want);
            }
        }
        Card.dueDescriptor(driver, Card.TRANSMIT_RING, 3, 0, 0, 0, 0, 0, 0, 0, 0);
        Card.dueDescriptor(driver, Card.RECEIVE_RING, 0, 0, 0, 0, 0, 0, 0, 0, 0);
    }

    private static void wrongLengthsAreRefused() {
        RingDriver driver = new RingDriver();
        int[] lengths = {0, 17, -1, 256, 257, Integer.MIN_VALUE, Integer.MAX_VALUE};
        for (int length : lengths) {
            Check.due("send(" + length + ")", driver.send(length), -2);
        }
        Check.due("sending", driver.sending(), 0);
        Card.dueDescriptor(driver, Card.TRANSMIT_RING, 0, 0, 0, 0, 0, 0, 0, 0, 0);
        Card.sendMany(driver, 8, 0);
        Check.due("a wrong length comes before a full ring", driver.send(0), -2);
        Check.due("a wrong length comes before a full ring", driver.send(17), -2);
    }

    private static void theNinthFrameIsRefused() {
        RingDriver driver = new RingDriver();
        Card.loadAll(driver, 1);
        Card.sendMany(driver, 8, 0);
        Card.loadAll(driver, 60);
        Card.setOwner(driver, Card.TRANSMIT_RING, 0, 0);
        Check.due("send to a full ring", driver.send(5), -1);
        Check.due("sending", driver.sending(), 8);
        Card.dueDescriptor(driver, Card.TRANSMIT_RING, 0, 8, 16, 0, 0, 0, 0, 0, 0);
        Check.due("the first buffer stays", driver.deviceRead(128), 1);
        Check.due("reclaim", driver.reclaim(), 1);
        Check.due("send again", driver.send(5), 0);
        Check.due("the new byte", driver.deviceRead(128), 60);
    }

    private static void noOldBytesStandBehindAFrame() {
        RingDriver driver = new RingDriver();
        Card.loadAll(driver, 200);
        Card.sendMany(driver, 8, 0);
        Check.due("revoke", driver.revoke(), 8);
        Card.scribbleOverRings(driver, 77);
        Check.due("send", driver.send(1), 0);
        Card.dueDescriptor(driver, Card.TRANSMIT_RING, 0, 8, 1, 1, 0, 0, 0, 0, 0);
        Card.dueDescriptor(driver, Card.TRANSMIT_RING, 1, 77, 77, 77, 77, 77, 77, 77, 77);
        Check.due("byte 0", driver.deviceRead(128), 200);
        for (int i = 1; i < 16; i++) {
            Check.due("byte " + i, driver.deviceRead(128 + i), 0);
        }
    }

    private static void slotsGoRoundTheRing() {
        RingDriver driver = new RingDriver();
        for (int i = 0; i < 30; i++) {
            int slot = i % 8;
            driver.load(0, i);
            Check.due("send", driver.send(1 + i % 16), slot);
            Card.dueDescriptor(driver, Card.TRANSMIT_RING, slot, 8 + slot, 1 + i % 16, 1);
            Check.due("first byte", driver.deviceRead(128 + 16 * slot), i);
            Card.setOwner(driver, Card.TRANSMIT_RING, slot, 0);
            Check.due("reclaim", driver.reclaim(), 1);
        }
    }
}
