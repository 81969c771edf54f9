final class Promise07ReclaimTest {
    public static void main(String[] args) {
        onlyTheOldestOnesAreReclaimed();
        anyOtherOwnerIsTheCard();
        allEightCanBeReclaimedAcrossTheEnd();
        bytesAndDescriptorsStay();
        slotsThatAreNotPostedDoNotCount();
        Check.end();
    }

    private static void onlyTheOldestOnesAreReclaimed() {
        RingDriver driver = new RingDriver();
        Card.sendMany(driver, 5, 0);
        Check.due("none given back", driver.reclaim(), 0);
        Card.setOwner(driver, Card.TRANSMIT_RING, 1, 0);
        Card.setOwner(driver, Card.TRANSMIT_RING, 3, 0);
        Check.due("the oldest is the card's", driver.reclaim(), 0);
        Check.due("sending", driver.sending(), 5);
        Card.setOwner(driver, Card.TRANSMIT_RING, 0, 0);
        Check.due("up to the first of the card's", driver.reclaim(), 2);
        Check.due("sending", driver.sending(), 3);
        boolean[] open = {false, false, true, true, true, false, false, false};
        for (int slot = 0; slot < 8; slot++) {
            Card.dueReadable(driver, slot, open[slot]);
        }
        Check.due("again", driver.reclaim(), 0);
        Check.due("the next slot", driver.send(1), 5);
    }

    private static void anyOtherOwnerIsTheCard() {
        RingDriver driver = new RingDriver();
        driver.send(1);
        int[] owners = {1, 2, 128, 255};
        for (int owner : owners) {
            Card.setOwner(driver, Card.TRANSMIT_RING, 0, owner);
            Check.due("owner " + owner, driver.reclaim(), 0);
        }
        Card.setOwner(driver, Card.TRANSMIT_RING, 0, 256);
        Check.due("owner 256 is 0", driver.reclaim(), 1);
    }

    private static void allEightCanBeReclaimedAcrossTheEnd() {
        RingDriver driver = new RingDriver();
        Card.sendMany(driver, 3, 0);
        Card.scribbleOverRings(driver, 0);
        Check.due("reclaim", driver.reclaim(), 3);
        Card.sendMany(driver, 8, 3);
        Card.scribbleOverRings(driver, 0);
        Check.due("reclaim", driver.reclaim(), 8);
        Check.due("sending", driver.sending(), 0);
        Check.due("the next slot", driver.send(1), 3);
    }

    private static void bytesAndDescriptorsStay() {
        RingDriver driver = new RingDriver();
        driver.send(9);
        driver.deviceWrite(7, 33);
        Card.setOwner(driver, Card.TRANSMIT_RING, 0, 0);
        Check.due("reclaim", driver.reclaim(), 1);
        Card.dueDescriptor(driver, Card.TRANSMIT_RING, 0, 8, 9, 0, 0, 0, 0, 0, 33);
    }

    private static void slotsThatAreNotPostedDoNotCount() {
        RingDriver driver = new RingDriver();
        Check.due("nothing posted, all owners 0", driver.reclaim(), 0);
        Card.postMany(driver, 2, 0);
        Card.setOwner(driver, Card.RECEIVE_RING, 0, 0);
        Check.due("receive slots are not reclaimed", driver.reclaim(), 0);
        Check.due("receiving", driver.receiving(), 2);
        Check.due("send", driver.send(1), 0);
    }
}
