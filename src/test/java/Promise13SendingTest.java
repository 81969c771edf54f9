final class Promise13SendingTest {
    public static void main(String[] args) {
        itCountsPostedTransmitSlots();
        theCardDoesNotChangeIt();
        Check.end();
    }

    private static void itCountsPostedTransmitSlots() {
        RingDriver driver = new RingDriver();
        for (int number = 0; number < 8; number++) {
            Check.due("sending", driver.sending(), number);
            Check.due("sending again", driver.sending(), number);
            driver.send(1);
        }
        Check.due("full", driver.sending(), 8);
        driver.send(1);
        Check.due("still full", driver.sending(), 8);
        driver.post();
        Check.due("a receive slot is none", driver.sending(), 8);
        Card.setOwner(driver, Card.TRANSMIT_RING, 0, 0);
        driver.reclaim();
        Check.due("after reclaim", driver.sending(), 7);
        driver.revoke();
        Check.due("after revoke", driver.sending(), 0);
        Check.due("the receive slot stays", driver.receiving(), 1);
    }

    private static void theCardDoesNotChangeIt() {
        RingDriver driver = new RingDriver();
        Card.sendMany(driver, 3, 0);
        Card.scribbleOverRings(driver, 0);
        Check.due("all owners 0", driver.sending(), 3);
        Card.scribbleOverRings(driver, 255);
        Check.due("all owners 255", driver.sending(), 3);
    }
}
