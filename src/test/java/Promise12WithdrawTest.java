final class Promise12WithdrawTest {
    public static void main(String[] args) {
        allOfTheCardsAreWithdrawn();
        givenBackOnesAtTheFrontStay();
        anyOtherOwnerIsTheCard();
        onlyOwnerBytesChange();
        withdrawingAcrossTheEnd();
        nothingToWithdraw();
        transmitSlotsStay();
        Check.end();
    }

    private static void allOfTheCardsAreWithdrawn() {
        RingDriver driver = new RingDriver();
        Card.postMany(driver, 8, 0);
        Check.due("withdraw", driver.withdraw(), 8);
        Check.due("receiving", driver.receiving(), 0);
        for (int slot = 0; slot < 8; slot++) {
            Card.dueWritable(driver, slot, false);
        }
        Check.due("receive", driver.receive(), -1);
        Check.due("the next slot", driver.post(), 0);
    }

    private static void givenBackOnesAtTheFrontStay() {
        RingDriver driver = new RingDriver();
        Card.postMany(driver, 6, 0);
        Card.fillReceiveBuffer(driver, 0, 20);
        Card.fillReceiveBuffer(driver, 1, 40);
        Card.deliver(driver, 0, 2);
        Card.deliver(driver, 1, 1);
        Card.deliver(driver, 3, 1);
        Check.due("withdraw", driver.withdraw(), 4);
        Check.due("receiving", driver.receiving(), 2);
        for (int slot = 2; slot < 8; slot++) {
            Card.dueWritable(driver, slot, false);
        }
        Check.due("a kept one stays open", driver.deviceWrite(256 + 15, 9), 0);
        Check.due("a kept one stays open", driver.deviceWrite(272 + 15, 9), 0);
        Check.due("receive", driver.receive(), 2);
        Check.due("taken(1)", driver.taken(1), 21);
        Check.due("the next slot", driver.post(), 2);
        Check.due("receive", driver.receive(), 1);
        Check.due("taken(0)", driver.taken(0), 40);
        Check.due("receive", driver.receive(), -1);
        Check.due("receiving", driver.receiving(), 1);
    }

    private static void anyOtherOwnerIsTheCard() {
        RingDriver driver = new RingDriver();
        Card.postMany(driver, 3, 0);
        Card.setOwner(driver, Card.RECEIVE_RING, 0, 0);
        Card.setOwner(driver, Card.RECEIVE_RING, 1, 200);
        Card.setOwner(driver, Card.RECEIVE_RING, 2, 0);
        Check.due("withdraw", driver.withdraw(), 2);
        Check.due("receiving", driver.receiving(), 1);
        Card.dueWritable(driver, 0, true);
        Card.dueWritable(driver, 1, false);
    }

    private static void onlyOwnerBytesChange() {
        RingDriver driver = new RingDriver();
        Card.postMany(driver, 2, 0);
        Card.scribbleOverRings(driver, 88);
        Check.due("withdraw", driver.withdraw(), 2);
        Card.dueDescriptor(driver, Card.RECEIVE_RING, 0, 88, 88, 0, 88, 88, 88, 88, 88);
        Card.dueDescriptor(driver, Card.RECEIVE_RING, 1, 88, 88, 0, 88, 88, 88, 88, 88);
        Card.dueDescriptor(driver, Card.RECEIVE_RING, 2, 88, 88, 88, 88, 88, 88, 88, 88);
        Card.dueDescriptor(driver, Card.RECEIVE_RING, 7, 88, 88, 88, 88, 88, 88, 88, 88);
        Card.dueDescriptor(driver, Card.TRANSMIT_RING, 0, 88, 88, 88, 88, 88, 88, 88, 88);
    }

    private static void withdrawingAcrossTheEnd() {
        RingDriver driver = new RingDriver();
        Card.postMany(driver, 6, 0);
        for (int slot = 0; slot < 6; slot++) {
            Card.deliver(driver, slot, 1);
            Check.due("receive", driver.receive(), 1);
        }
        Card.postMany(driver, 8, 6);
        Card.deliver(driver, 6, 1);
        Card.deliver(driver, 7, 1);
        Card.deliver(driver, 0, 1);
        Check.due("withdraw", driver.withdraw(), 5);
        Check.due("receiving", driver.receiving(), 3);
        boolean[] open = {true, false, false, false, false, false, true, true};
        for (int slot = 0; slot < 8; slot++) {
            Card.dueWritable(driver, slot, open[slot]);
            Check.due("owner", driver.deviceRead(Card.ownerAddress(Card.RECEIVE_RING, slot)), 0);
        }
        Check.due("the next slot", driver.post(), 1);
    }

    private static void nothingToWithdraw() {
        RingDriver driver = new RingDriver();
        Check.due("withdraw", driver.withdraw(), 0);
        Card.postMany(driver, 8, 0);
        Card.scribbleOverRings(driver, 0);
        Check.due("all given back", driver.withdraw(), 0);
        Check.due("receiving", driver.receiving(), 8);
        Card.dueWritable(driver, 7, true);
    }

    private static void transmitSlotsStay() {
        RingDriver driver = new RingDriver();
        Card.sendMany(driver, 2, 0);
        Card.postMany(driver, 2, 0);
        Check.due("withdraw", driver.withdraw(), 2);
        Check.due("sending", driver.sending(), 2);
        Card.dueReadable(driver, 1, true);
        Card.dueDescriptor(driver, Card.TRANSMIT_RING, 1, 9, 16, 1, 0, 0, 0, 0, 0);
    }
}
