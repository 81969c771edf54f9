final class Promise08RevokeTest {
    public static void main(String[] args) {
        whatIsGivenBackIsReclaimedFirst();
        givenBackBehindTheCardsIsRevokedToo();
        onlyOwnerBytesChange();
        revokingAcrossTheEnd();
        nothingToRevoke();
        receiveSlotsStay();
        Check.end();
    }

    private static void whatIsGivenBackIsReclaimedFirst() {
        RingDriver driver = new RingDriver();
        Card.sendMany(driver, 5, 0);
        Card.setOwner(driver, Card.TRANSMIT_RING, 0, 0);
        Card.setOwner(driver, Card.TRANSMIT_RING, 1, 0);
        Check.due("revoke", driver.revoke(), 3);
        Check.due("sending", driver.sending(), 0);
        for (int slot = 0; slot < 8; slot++) {
            Card.dueReadable(driver, slot, false);
        }
        Check.due("the next slot", driver.send(1), 2);
        Card.dueReadable(driver, 2, true);
        Card.dueReadable(driver, 1, false);
        Card.dueReadable(driver, 3, false);
    }

    private static void givenBackBehindTheCardsIsRevokedToo() {
        RingDriver driver = new RingDriver();
        Card.sendMany(driver, 3, 0);
        Card.setOwner(driver, Card.TRANSMIT_RING, 1, 0);
        Check.due("revoke", driver.revoke(), 3);
        Check.due("the next slot", driver.send(1), 0);
    }

    private static void onlyOwnerBytesChange() {
        RingDriver driver = new RingDriver();
        Card.sendMany(driver, 2, 0);
        Card.scribbleOverRings(driver, 88);
        Check.due("revoke", driver.revoke(), 2);
        Card.dueDescriptor(driver, Card.TRANSMIT_RING, 0, 88, 88, 0, 88, 88, 88, 88, 88);
        Card.dueDescriptor(driver, Card.TRANSMIT_RING, 1, 88, 88, 0, 88, 88, 88, 88, 88);
        Card.dueDescriptor(driver, Card.TRANSMIT_RING, 2, 88, 88, 88, 88, 88, 88, 88, 88);
        Card.dueDescriptor(driver, Card.TRANSMIT_RING, 7, 88, 88, 88, 88, 88, 88, 88, 88);
        Card.dueDescriptor(driver, Card.RECEIVE_RING, 0, 88, 88, 88, 88, 88, 88, 88, 88);
    }

    private static void revokingAcrossTheEnd() {
        RingDriver driver = new RingDriver();
        Card.sendMany(driver, 6, 0);
        Card.scribbleOverRings(driver, 0);
        Check.due("reclaim", driver.reclaim(), 6);
        Card.sendMany(driver, 8, 6);
        Card.setOwner(driver, Card.TRANSMIT_RING, 6, 0);
        Check.due("revoke", driver.revoke(), 7);
        for (int slot = 0; slot < 8; slot++) {
            Card.dueDescriptor(driver, Card.TRANSMIT_RING, slot, 8 + slot, 16, 0);
        }
        Check.due("the next slot", driver.send(1), 7);
    }

    private static void nothingToRevoke() {
        RingDriver driver = new RingDriver();
        Check.due("revoke", driver.revoke(), 0);
        Card.sendMany(driver, 4, 0);
        Card.scribbleOverRings(driver, 0);
        Check.due("all given back", driver.revoke(), 0);
        Check.due("sending", driver.sending(), 0);
        Check.due("the next slot", driver.send(1), 4);
    }

    private static void receiveSlotsStay() {
        RingDriver driver = new RingDriver();
        Card.sendMany(driver, 2, 0);
        Card.postMany(driver, 2, 0);
        Check.due("revoke", driver.revoke(), 2);
        Check.due("receiving", driver.receiving(), 2);
        Card.dueWritable(driver, 1, true);
        Card.dueDescriptor(driver, Card.RECEIVE_RING, 1, 17, 0, 1, 0, 0, 0, 0, 0);
    }
}
