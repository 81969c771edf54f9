/** Promise 14, its boundary cases. */
final class Edges14ReceivingTest {
    public static void main(String[] args) {
        Check.sentence("How many receive slots are posted: 0 .. 8, from every t",
            Edges14ReceivingTest::everyNumber);
        Check.sentence("How many receive slots are posted: a refused post is none",
            Edges14ReceivingTest::refusedPostsDoNotCount);
        Check.sentence("How many receive slots are posted: whoever their owner is",
            Edges14ReceivingTest::ownersDoNotCount);
        Check.sentence("How many receive slots are posted: not transmit slots",
            Edges14ReceivingTest::transmitSlotsDoNotCount);
        Check.end();
    }

    private static void everyNumber() {
        for (int first = 0; first < 8; first++) {
            RingDriver driver = new RingDriver();
            States.startReceiveAt(driver, first);
            for (int number = 0; number < 8; number++) {
                Check.due("receiving", driver.receiving(), number);
                driver.post();
            }
            for (int number = 8; number > 0; number--) {
                Check.due("receiving", driver.receiving(), number);
                Card.deliver(driver, (first + 8 - number) % 8, 8 + number);
                Check.due("receive", driver.receive(), 8 + number);
            }
            Check.due("receiving", driver.receiving(), 0);
            Check.due("receive", driver.receive(), -1);
            Check.due("never below 0", driver.receiving(), 0);
        }
    }

    private static void refusedPostsDoNotCount() {
        RingDriver driver = new RingDriver();
        Card.postMany(driver, 8, 0);
        Check.due("post", driver.post(), -1);
        Check.due("receiving", driver.receiving(), 8);
    }

    private static void ownersDoNotCount() {
        RingDriver driver = new RingDriver();
        Card.postMany(driver, 3, 0);
        Card.scribbleOverRings(driver, 0);
        Check.due("receiving", driver.receiving(), 3);
        Card.scribbleOverRings(driver, 255);
        Check.due("receiving", driver.receiving(), 3);
    }

    private static void transmitSlotsDoNotCount() {
        RingDriver driver = new RingDriver();
        Card.postMany(driver, 1, 0);
        Card.sendMany(driver, 8, 0);
        Check.due("receiving", driver.receiving(), 1);
        Card.setOwner(driver, Card.TRANSMIT_RING, 0, 0);
        Check.due("reclaim", driver.reclaim(), 1);
        Check.due("revoke", driver.revoke(), 7);
        Check.due("receiving", driver.receiving(), 1);
    }
}
