final class Promise14ReceivingTest {
    public static void main(String[] args) {
        itCountsPostedReceiveSlots();
        theCardDoesNotChangeIt();
        Check.end();
    }

    private static void itCountsPostedReceiveSlots() {
        RingDriver driver = new RingDriver();
        for (int number = 0; number < 8; number++) {
            Check.due("receiving", driver.receiving(), number);
            Check.due("receiving again", driver.receiving(), number);
            driver.post();
        }
        Check.due("full", driver.receiving(), 8);
        driver.post();
        Check.due("still full", driver.receiving(), 8);
        driver.send(1);
        Check.due("a transmit slot is none", driver.receiving(), 8);
        Card.deliver(driver, 0, 1);
        driver.receive();
        Check.due("after receive", driver.receiving(), 7);
        Card.deliver(driver, 1, 0);
        driver.receive();
        Check.due("after a wrong length", driver.receiving(), 6);
        driver.withdraw();
        Check.due("after withdraw", driver.receiving(), 0);
        Check.due("the transmit slot stays", driver.sending(), 1);
    }

    private static void theCardDoesNotChangeIt() {
        RingDriver driver = new RingDriver();
        Card.postMany(driver, 3, 0);
        Card.scribbleOverRings(driver, 0);
        Check.due("all owners 0", driver.receiving(), 3);
        Card.scribbleOverRings(driver, 255);
        Check.due("all owners 255", driver.receiving(), 3);
    }
}
