/** Promise 8, its boundary cases. */
final class Edges08RevokeTest {
    public static void main(String[] args) {
        Check.sentence("First what reclaim does; How many were closed in the second part: not those of the first",
            Edges08RevokeTest::theFirstPartDoesNotCount);
        Check.sentence("then all that are still posted are closed: none is posted",
            Edges08RevokeTest::noneIsPosted);
        Check.sentence("then all that are still posted are closed: all have been given back",
            Edges08RevokeTest::allAreGivenBack);
        Check.sentence("then all that are still posted are closed: every number, from every t",
            Edges08RevokeTest::everyNumberIsClosed);
        Check.sentence("all that are still posted: also those given back behind one of the card's",
            Edges08RevokeTest::givenBackOnesBehindTheCards);
        Check.sentence("their owner bytes become 0", Edges08RevokeTest::ownersBecomeZero);
        Check.sentence("their owner bytes: of no slot that is not posted", Edges08RevokeTest::otherOwnersStay);
        Check.sentence("(the rest of their descriptors stays)", Edges08RevokeTest::theRestStays);
        Check.sentence("the queue is empty (t stays as it is after the first part)",
            Edges08RevokeTest::theNextSlotIsTheFirstClosedOne);
        Check.sentence("transmit slots, not receive slots", Edges08RevokeTest::receiveSlotsStay);
        Check.end();
    }

    private static RingDriver sending(int first, int number) {
        RingDriver driver = new RingDriver();
        States.startTransmitAt(driver, first);
        Card.sendMany(driver, number, first);
        return driver;
    }

    private static void giveBack(RingDriver driver, int first, int number) {
        for (int place = 0; place < number; place++) {
            Card.setOwner(driver, Card.TRANSMIT_RING, (first + place) % 8, 0);
        }
    }

    private static void theFirstPartDoesNotCount() {
        for (int first = 0; first < 8; first++) {
            for (int back = 0; back <= 8; back++) {
                RingDriver driver = sending(first, 8);
                giveBack(driver, first, back);
                Check.due(back + " given back, revoke", driver.revoke(), 8 - back);
                Check.due("sending", driver.sending(), 0);
            }
        }
    }

    private static void noneIsPosted() {
        Twins.unchangedBy("revoke", States.EMPTY, driver -> Check.due("revoke", driver.revoke(), 0));
        for (int first = 0; first < 8; first++) {
            RingDriver driver = sending(first, 0);
            Check.due("revoke", driver.revoke(), 0);
            Check.due("t stays", driver.send(1), first);
        }
    }

    private static void allAreGivenBack() {
        for (int number = 1; number <= 8; number++) {
            RingDriver driver = sending(5, number);
            giveBack(driver, 5, number);
            Check.due(number + " posted, revoke", driver.revoke(), 0);
            Check.due("sending", driver.sending(), 0);
            for (int slot = 0; slot < 8; slot++) {
                Card.dueReadable(driver, slot, false);
            }
            Check.due("the next slot", driver.send(1), (5 + number) % 8);
        }
    }

    private static void everyNumberIsClosed() {
        for (int first = 0; first < 8; first++) {
            for (int number = 1; number <= 8; number++) {
                RingDriver driver = sending(first, number);
                Check.due(number + " posted, revoke", driver.revoke(), number);
                Check.due("sending", driver.sending(), 0);
                for (int slot = 0; slot < 8; slot++) {
                    Card.dueReadable(driver, slot, false);
                }
                Check.due("revoke again", driver.revoke(), 0);
                Check.due("reclaim", driver.reclaim(), 0);
            }
        }
    }

    private static void givenBackOnesBehindTheCards() {
        for (int first = 0; first < 8; first++) {
            RingDriver driver = sending(first, 8);
            giveBack(driver, first, 8);
            Card.setOwner(driver, Card.TRANSMIT_RING, (first + 2) % 8, 255);
            Check.due("revoke", driver.revoke(), 6);
            Check.due("sending", driver.sending(), 0);
            Check.due("the next slot", driver.send(1), (first + 2) % 8);
        }
    }

    private static void ownersBecomeZero() {
        int[] owners = {1, 2, 128, 255};
        for (int owner : owners) {
            for (int first = 0; first < 8; first++) {
                RingDriver driver = sending(first, 8);
                for (int slot = 0; slot < 8; slot++) {
                    Card.setOwner(driver, Card.TRANSMIT_RING, slot, owner);
                }
                Check.due("revoke", driver.revoke(), 8);
                for (int slot = 0; slot < 8; slot++) {
                    Check.due("owner of " + slot, driver.deviceRead(8 * slot + 2), 0);
                }
            }
        }
    }

    private static void otherOwnersStay() {
        for (int first = 0; first < 8; first++) {
            RingDriver driver = sending(first, 3);
            Card.scribbleOverRings(driver, 7);
            Card.setOwner(driver, Card.TRANSMIT_RING, first, 0);
            Check.due("revoke", driver.revoke(), 2);
            for (int place = 0; place < 8; place++) {
                int slot = (first + place) % 8;
                Check.due("owner of " + slot, driver.deviceRead(8 * slot + 2), place < 3 ? 0 : 7);
                Check.due("a receive slot's", driver.deviceRead(64 + 8 * slot + 2), 7);
            }
        }
    }

    private static void theRestStays() {
        RingDriver driver = sending(6, 5);
        Card.scribbleOverRings(driver, 251);
        Check.due("revoke", driver.revoke(), 5);
        boolean[] closed = {true, true, true, false, false, false, true, true};
        for (int address = 0; address < 128; address++) {
            boolean owner = address < 64 && address % 8 == 2 && closed[address / 8];
            Check.due("deviceRead(" + address + ")", driver.deviceRead(address), owner ? 0 : 251);
        }
        RingDriver plain = sending(0, 2);
        Check.due("revoke", plain.revoke(), 2);
        Card.dueDescriptor(plain, Card.TRANSMIT_RING, 0, 8, 16, 0, 0, 0, 0, 0, 0);
        Card.dueDescriptor(plain, Card.TRANSMIT_RING, 1, 9, 16, 0, 0, 0, 0, 0, 0);
    }

    private static void theNextSlotIsTheFirstClosedOne() {
        for (int first = 0; first < 8; first++) {
            for (int back = 0; back <= 7; back++) {
                RingDriver driver = sending(first, 8);
                giveBack(driver, first, back);
                Check.due("revoke", driver.revoke(), 8 - back);
                Card.sendMany(driver, 8, first + back);
                Check.due("full again", driver.send(1), -1);
            }
        }
    }

    private static void receiveSlotsStay() {
        RingDriver driver = new RingDriver();
        States.full(driver);
        Check.due("revoke", driver.revoke(), 8);
        Check.due("receiving", driver.receiving(), 8);
        for (int slot = 0; slot < 8; slot++) {
            Card.dueWritable(driver, slot, true);
            Card.dueDescriptor(driver, Card.RECEIVE_RING, slot, 16 + slot, 0, 1, 0, 0, 0, 0, 0);
        }
    }
}
