final class Promise02DeviceReadTest {
    public static void main(String[] args) {
        ringsAreAlwaysReadable();
        wrongAddressesAreFaults();
        aTransmitBufferIsReadableWhilePosted();
        openPagesGoWithTheQueueRoundTheRing();
        receiveBuffersAreNeverReadable();
        theCardCannotOpenPages();
        Check.end();
    }

    private static void ringsAreAlwaysReadable() {
        RingDriver driver = new RingDriver();
        for (int address = 0; address < Card.TRANSMIT_BUFFERS; address++) {
            driver.deviceWrite(address, address + 100);
        }
        for (int address = 0; address < Card.TRANSMIT_BUFFERS; address++) {
            Check.due("deviceRead(" + address + ")", driver.deviceRead(address), address + 100);
        }
        Check.due("faults", driver.faults(), 0);
    }

    private static void wrongAddressesAreFaults() {
        RingDriver driver = new RingDriver();
        Card.sendMany(driver, 8, 0);
        Card.postMany(driver, 8, 0);
        int faults = 0;
        for (int address : Card.WRONG_ADDRESSES) {
            Check.due("deviceRead(" + address + ")", driver.deviceRead(address), -1);
            faults++;
            Check.due("faults", driver.faults(), faults);
        }
    }

    private static void aTransmitBufferIsReadableWhilePosted() {
        RingDriver driver = new RingDriver();
        Card.loadAll(driver, 240);
        Check.due("before", driver.deviceRead(128), -1);
        driver.send(16);
        for (int i = 0; i < 16; i++) {
            Check.due("byte " + i, driver.deviceRead(128 + i), 240 + i);
        }
        Check.due("the page behind", driver.deviceRead(144), -1);
        Card.setOwner(driver, Card.TRANSMIT_RING, 0, 0);
        Check.due("given back, still posted", driver.deviceRead(129), 241);
        Check.due("reclaim", driver.reclaim(), 1);
        Check.due("after", driver.deviceRead(128), -1);
        Check.due("after, last byte", driver.deviceRead(143), -1);
        Check.due("faults", driver.faults(), 4);
    }

    private static void openPagesGoWithTheQueueRoundTheRing() {
        RingDriver driver = new RingDriver();
        Card.sendMany(driver, 6, 0);
        for (int slot = 0; slot < 6; slot++) {
            Card.setOwner(driver, Card.TRANSMIT_RING, slot, 0);
        }
        Check.due("reclaim", driver.reclaim(), 6);
        Card.sendMany(driver, 4, 6);
        boolean[] open = {true, true, false, false, false, false, true, true};
        for (int slot = 0; slot < 8; slot++) {
            Card.dueReadable(driver, slot, open[slot]);
        }
    }

    private static void receiveBuffersAreNeverReadable() {
        RingDriver driver = new RingDriver();
        Card.sendMany(driver, 8, 0);
        Card.postMany(driver, 8, 0);
        for (int address = Card.RECEIVE_BUFFERS; address < Card.ADDRESSES; address++) {
            Check.due("deviceRead(" + address + ")", driver.deviceRead(address), -1);
        }
        Check.due("faults", driver.faults(), 128);
    }

    private static void theCardCannotOpenPages() {
        RingDriver driver = new RingDriver();
        Card.sendMany(driver, 1, 0);
        Card.scribbleOverRings(driver, 9);
        Card.dueReadable(driver, 0, true);
        for (int slot = 1; slot < 8; slot++) {
            Card.dueReadable(driver, slot, false);
        }
    }
}
