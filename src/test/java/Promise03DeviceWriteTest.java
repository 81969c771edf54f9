final class Promise03DeviceWriteTest {
    public static void main(String[] args) {
        theLowestEightBitsCount();
        wrongAddressesAreFaults();
        aReceiveBufferIsWritableWhilePosted();
        openPagesGoWithTheQueueRoundTheRing();
        transmitBuffersAreNeverWritable();
        aTakenFrameCannotBeChanged();
        theCardCannotOpenPages();
        Check.end();
    }

    private static void theLowestEightBitsCount() {
        RingDriver driver = new RingDriver();
        int[] values = {0, 1, 255, 256, 300, -1, -256, -255, Integer.MIN_VALUE, Integer.MAX_VALUE};
        int[] bytes = {0, 1, 255, 0, 44, 255, 0, 1, 0, 255};
        for (int i = 0; i < values.length; i++) {
            Check.due("deviceWrite(127, " + values[i] + ")", driver.deviceWrite(127, values[i]), 0);
            Check.due("deviceRead(127)", driver.deviceRead(127), bytes[i]);
        }
        Check.due("faults", driver.faults(), 0);
    }

    private static void wrongAddressesAreFaults() {
        RingDriver driver = new RingDriver();
        Card.sendMany(driver, 8, 0);
        Card.postMany(driver, 8, 0);
        int faults = 0;
        for (int address : Card.WRONG_ADDRESSES) {
            Check.due("deviceWrite(" + address + ")", driver.deviceWrite(address, 7), -1);
            faults++;
            Check.due("faults", driver.faults(), faults);
        }
    }

    private static void aReceiveBufferIsWritableWhilePosted() {
        RingDriver driver = new RingDriver();
        Card.dueWritable(driver, 0, false);
        driver.post();
        Card.dueWritable(driver, 0, true);
        Card.dueWritable(driver, 1, false);
        Card.deliver(driver, 0, 4);
        Card.dueWritable(driver, 0, true);
        Check.due("receive", driver.receive(), 4);
        Card.dueWritable(driver, 0, false);
        Check.due("faults", driver.faults(), 6);
    }

    private static void openPagesGoWithTheQueueRoundTheRing() {
        RingDriver driver = new RingDriver();
        Card.postMany(driver, 6, 0);
        for (int slot = 0; slot < 6; slot++) {
            Card.deliver(driver, slot, 1);
            Check.due("receive", driver.receive(), 1);
        }
        Card.postMany(driver, 4, 6);
        boolean[] open = {true, true, false, false, false, false, true, true};
        for (int slot = 0; slot < 8; slot++) {
            Card.dueWritable(driver, slot, open[slot]);
        }
    }

    private static void transmitBuffersAreNeverWritable() {
        RingDriver driver = new RingDriver();
        Card.loadAll(driver, 1);
        Card.sendMany(driver, 8, 0);
        Card.postMany(driver, 8, 0);
        for (int address = Card.TRANSMIT_BUFFERS; address < Card.RECEIVE_BUFFERS; address++) {
            Check.due("deviceWrite(" + address + ")", driver.deviceWrite(address, 99), -1);
        }
        for (int address = Card.TRANSMIT_BUFFERS; address < Card.RECEIVE_BUFFERS; address++) {
            Check.due("nothing is put", driver.deviceRead(address), address % 16 + 1);
        }
        Check.due("faults", driver.faults(), 128);
    }

    private static void aTakenFrameCannotBeChanged() {
        RingDriver driver = new RingDriver();
        driver.post();
        Card.fillReceiveBuffer(driver, 0, 30);
        Card.deliver(driver, 0, 2);
        Check.due("receive", driver.receive(), 2);
        Check.due("late write", driver.deviceWrite(256, 99), -1);
        Card.dueInBox(driver, 30, 31);
    }

    private static void theCardCannotOpenPages() {
        RingDriver driver = new RingDriver();
        Card.postMany(driver, 1, 0);
        Card.scribbleOverRings(driver, 17);
        Card.dueWritable(driver, 0, true);
        for (int slot = 1; slot < 8; slot++) {
            Card.dueWritable(driver, slot, false);
        }
    }
}
