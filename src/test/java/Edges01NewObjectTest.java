/** Promise 1, its boundary cases. */
final class Edges01NewObjectTest {
    public static void main(String[] args) {
        Check.sentence("Nothing is posted: no page is open to be read", Edges01NewObjectTest::nothingIsReadable);
        Check.sentence("Nothing is posted: no page is open to be written",
            Edges01NewObjectTest::nothingIsWritable);
        Check.sentence("Nothing is posted: none is taken out of a queue", Edges01NewObjectTest::queuesAreEmpty);
        Check.sentence("rings, buffers and boxes are 0: buffers", Edges01NewObjectTest::buffersAreZero);
        Check.sentence("no faults", Edges01NewObjectTest::noFaults);
        Check.sentence("A new object is new, whatever other objects are",
            Edges01NewObjectTest::objectsShareNothing);
        Check.end();
    }

    private static void nothingIsReadable() {
        RingDriver driver = new RingDriver();
        for (int address = 128; address < 384; address++) {
            Check.due("deviceRead(" + address + ")", driver.deviceRead(address), -1);
        }
    }

    private static void nothingIsWritable() {
        RingDriver driver = new RingDriver();
        for (int address = 128; address < 384; address++) {
            Check.due("deviceWrite(" + address + ")", driver.deviceWrite(address, 1), -1);
        }
    }

    private static void queuesAreEmpty() {
        RingDriver driver = new RingDriver();
        Check.due("sending", driver.sending(), 0);
        Check.due("receiving", driver.receiving(), 0);
        Check.due("reclaim", driver.reclaim(), 0);
        Check.due("receive", driver.receive(), -1);
        Check.due("withdraw", driver.withdraw(), 0);
        Check.due("revoke", driver.revoke(), 0);
    }

    /** Posted at once, each buffer holds zeros: the card has put nothing, and nothing has been loaded. */
    private static void buffersAreZero() {
        RingDriver driver = new RingDriver();
        Card.sendMany(driver, 8, 0);
        Card.postMany(driver, 8, 0);
        for (int address = 128; address < 256; address++) {
            Check.due("deviceRead(" + address + ")", driver.deviceRead(address), 0);
        }
        for (int slot = 0; slot < 8; slot++) {
            Card.deliver(driver, slot, 16);
            Check.due("receive", driver.receive(), 16);
            Card.dueInBox(driver);
        }
    }

    private static void noFaults() {
        RingDriver driver = new RingDriver();
        Check.due("faults", driver.faults(), 0);
        Check.due("deviceRead(-1)", driver.deviceRead(-1), -1);
        Check.due("faults", driver.faults(), 1);
    }

    private static void objectsShareNothing() {
        RingDriver used = new RingDriver();
        States.roundTheEnd(used);
        used.deviceWrite(-1, 0);
        noFaults();
        queuesAreEmpty();
        buffersAreZero();
        nothingIsReadable();
        nothingIsWritable();
        Check.due("the used one's queue", used.sending(), 5);
        Check.due("the used one's faults", used.faults(), 1);
        Check.due("the used one's box", used.taken(15), 215);
    }
}
