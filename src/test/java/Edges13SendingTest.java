/** Promise 13, its boundary cases. */
final class Edges13SendingTest {
    public static void main(String[] args) {
        Check.sentence("How many transmit slots are posted: 0 .. 8, from every t",
            Edges13SendingTest::everyNumber);
        Check.sentence("How many transmit slots are posted: a refused frame is none",
            Edges13SendingTest::refusedFramesDoNotCount);
        Check.sentence("How many transmit slots are posted: whoever their owner is",
            Edges13SendingTest::ownersDoNotCount);
        Check.sentence("How many transmit slots are posted: not receive slots",
            Edges13SendingTest::receiveSlotsDoNotCount);
        Check.end();
    }

    private static void everyNumber() {
        for (int first = 0; first < 8; first++) {
            RingDriver driver = new RingDriver();
            States.startTransmitAt(driver, first);
            for (int number = 0; number < 8; number++) {
                Check.due("sending", driver.sending(), number);
                driver.send(16);
            }
            for (int number = 8; number > 0; number--) {
                Check.due("sending", driver.sending(), number);
                Card.setOwner(driver, Card.TRANSMIT_RING, (first + 8 - number) % 8, 0);
                Check.due("reclaim", driver.reclaim(), 1);
            }
            Check.due("sending", driver.sending(), 0);
            Check.due("reclaim", driver.reclaim(), 0);
            Check.due("never below 0", driver.sending(), 0);
        }
    }

    private static void refusedFramesDoNotCount() {
        RingDriver driver = new RingDriver();
        driver.send(0);
        driver.send(17);
        Check.due("sending", driver.sending(), 0);
        Card.sendMany(driver, 8, 0);
        driver.send(1);
        driver.send(-1);
        Check.due("sending", driver.sending(), 8);
    }

    private static void ownersDoNotCount() {
        RingDriver driver = new RingDriver();
        Card.sendMany(driver, 3, 0);
        Card.scribbleOverRings(driver, 0);
        Check.due("sending", driver.sending(), 3);
        Card.scribbleOverRings(driver, 255);
        Check.due("sending", driver.sending(), 3);
    }

    private static void receiveSlotsDoNotCount() {
        RingDriver driver = new RingDriver();
        Card.sendMany(driver, 1, 0);
        Card.postMany(driver, 8, 0);
        Check.due("sending", driver.sending(), 1);
        Card.deliver(driver, 0, 1);
        Check.due("receive", driver.receive(), 1);
        Check.due("withdraw", driver.withdraw(), 7);
        Check.due("sending", driver.sending(), 1);
    }
}
