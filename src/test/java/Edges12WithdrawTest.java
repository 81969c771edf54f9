/** Promise 12, its boundary cases. */
final class Edges12WithdrawTest {
    public static void main(String[] args) {
        Check.sentence("Of the posted receive slots: none is posted", Edges12WithdrawTest::noneIsPosted);
        Check.sentence("those with owner byte 0 stay: all have it", Edges12WithdrawTest::allStay);
        Check.sentence("those with owner byte 0 stay: open and with their frames",
            Edges12WithdrawTest::keptOnesKeepTheirFrames);
        Check.sentence("up to the first whose owner byte is not 0: that one and all behind it are closed",
            Edges12WithdrawTest::everyFirstOfTheCards);
        Check.sentence("whose owner byte is not 0: any but 0", Edges12WithdrawTest::everyOwnerButZero);
        Check.sentence("all behind it: also those with owner byte 0",
            Edges12WithdrawTest::givenBackOnesBehindTheCards);
        Check.sentence("and leave the queue: the next post comes behind those that stay; How many",
            Edges12WithdrawTest::theNextSlotIsTheFirstClosedOne);
        Check.sentence("their owner bytes become 0", Edges12WithdrawTest::ownersBecomeZero);
        Check.sentence("their owner bytes: of no slot that is not posted", Edges12WithdrawTest::otherOwnersStay);
        Check.sentence("(the rest of their descriptors stays)", Edges12WithdrawTest::theRestStays);
        Check.sentence("receive slots, not transmit slots; and the in box stays",
            Edges12WithdrawTest::allElseStays);
        Check.end();
    }

    private static RingDriver receiving(int first, int number) {
        RingDriver driver = new RingDriver();
        States.startReceiveAt(driver, first);
        Card.postMany(driver, number, first);
        return driver;
    }

    private static void giveBack(RingDriver driver, int first, int number) {
        for (int place = 0; place < number; place++) {
            Card.deliver(driver, (first + place) % 8, 1 + place);
        }
    }

    private static void noneIsPosted() {
        Twins.unchangedBy("withdraw", States.EMPTY, driver -> Check.due("withdraw", driver.withdraw(), 0));
        for (int first = 0; first < 8; first++) {
            RingDriver driver = receiving(first, 0);
            Card.scribbleOverRings(driver, 1);
            Check.due("withdraw", driver.withdraw(), 0);
            Check.due("the owner byte stays", driver.deviceRead(64 + 8 * first + 2), 1);
            Check.due("t stays", driver.post(), first);
        }
    }

    private static void allStay() {
        for (int first = 0; first < 8; first++) {
            for (int number = 1; number <= 8; number++) {
                RingDriver driver = receiving(first, number);
                giveBack(driver, first, number);
                Check.due(number + " posted, withdraw", driver.withdraw(), 0);
                Check.due("receiving", driver.receiving(), number);
                Card.dueWritable(driver, first, true);
                Card.dueWritable(driver, (first + number - 1) % 8, true);
                Check.due("receive", driver.receive(), 1);
            }
        }
    }

    private static void keptOnesKeepTheirFrames() {
        for (int first = 0; first < 8; first++) {
            RingDriver driver = receiving(first, 8);
            for (int place = 0; place < 3; place++) {
                driver.deviceWrite(256 + 16 * ((first + place) % 8), 70 + place);
            }
            giveBack(driver, first, 3);
            Check.due("withdraw", driver.withdraw(), 5);
            Check.due("still open", driver.deviceWrite(256 + 16 * first + 15, 9), 0);
            for (int place = 0; place < 3; place++) {
                Check.due("receive", driver.receive(), 1 + place);
                Check.due("taken(0)", driver.taken(0), 70 + place);
            }
            Check.due("receive", driver.receive(), -1);
        }
    }

    private static void everyFirstOfTheCards() {
        for (int first = 0; first < 8; first++) {
            for (int kept = 0; kept <= 7; kept++) {
                RingDriver driver = receiving(first, 8);
                giveBack(driver, first, kept);
                Check.due(kept + " stay, withdraw", driver.withdraw(), 8 - kept);
                Check.due("receiving", driver.receiving(), kept);
                for (int place = 0; place < 8; place++) {
                    Card.dueWritable(driver, (first + place) % 8, place < kept);
                }
                Check.due("withdraw again", driver.withdraw(), 0);
            }
        }
    }

    private static void everyOwnerButZero() {
        for (int owner = 1; owner < 256; owner++) {
            RingDriver driver = receiving(7, 3);
            giveBack(driver, 7, 3);
            Card.setOwner(driver, Card.RECEIVE_RING, 0, owner);
            Check.due("owner " + owner, driver.withdraw(), 2);
            Check.due("receiving", driver.receiving(), 1);
        }
    }

    private static void givenBackOnesBehindTheCards() {
        for (int first = 0; first < 8; first++) {
            RingDriver driver = receiving(first, 8);
            giveBack(driver, first, 8);
            Card.setOwner(driver, Card.RECEIVE_RING, (first + 2) % 8, 255);
            Check.due("withdraw", driver.withdraw(), 6);
            Check.due("receiving", driver.receiving(), 2);
            Card.dueWritable(driver, (first + 1) % 8, true);
            for (int place = 2; place < 8; place++) {
                Card.dueWritable(driver, (first + place) % 8, false);
            }
            Check.due("receive", driver.receive(), 1);
            Check.due("receive", driver.receive(), 2);
            Check.due("receive", driver.receive(), -1);
        }
    }

    private static void theNextSlotIsTheFirstClosedOne() {
        for (int first = 0; first < 8; first++) {
            for (int kept = 0; kept <= 7; kept++) {
                for (int number = kept + 1; number <= 8; number++) {
                    RingDriver driver = receiving(first, number);
                    giveBack(driver, first, kept);
                    Check.due("withdraw", driver.withdraw(), number - kept);
                    Card.postMany(driver, 8 - kept, first + kept);
                    Check.due("full again", driver.post(), -1);
                    Check.due("the oldest", driver.receive(), kept == 0 ? -1 : 1);
                }
            }
        }
    }

    private static void ownersBecomeZero() {
        int[] owners = {1, 2, 128, 255};
        for (int owner : owners) {
            for (int first = 0; first < 8; first++) {
                RingDriver driver = receiving(first, 8);
                for (int slot = 0; slot < 8; slot++) {
                    Card.setOwner(driver, Card.RECEIVE_RING, slot, owner);
                }
                Check.due("withdraw", driver.withdraw(), 8);
                for (int slot = 0; slot < 8; slot++) {
                    Check.due("owner of " + slot, driver.deviceRead(64 + 8 * slot + 2), 0);
                }
            }
        }
    }

    private static void otherOwnersStay() {
        for (int first = 0; first < 8; first++) {
            RingDriver driver = receiving(first, 3);
            Card.scribbleOverRings(driver, 7);
            Check.due("withdraw", driver.withdraw(), 3);
            for (int place = 0; place < 8; place++) {
                int slot = (first + place) % 8;
                Check.due("owner of " + slot, driver.deviceRead(64 + 8 * slot + 2), place < 3 ? 0 : 7);
                Check.due("a transmit slot's", driver.deviceRead(8 * slot + 2), 7);
            }
        }
    }

    private static void theRestStays() {
        RingDriver driver = receiving(6, 5);
        Card.scribbleOverRings(driver, 251);
        Card.setOwner(driver, Card.RECEIVE_RING, 6, 0);
        Check.due("withdraw", driver.withdraw(), 4);
        boolean[] back = {true, true, true, false, false, false, true, true};
        for (int address = 0; address < 128; address++) {
            boolean owner = address >= 64 && address % 8 == 2 && back[address / 8 - 8];
            Check.due("deviceRead(" + address + ")", driver.deviceRead(address), owner ? 0 : 251);
        }
        RingDriver plain = receiving(0, 2);
        Card.setLength(plain, Card.RECEIVE_RING, 1, 12);
        Check.due("withdraw", plain.withdraw(), 2);
        Card.dueDescriptor(plain, Card.RECEIVE_RING, 0, 16, 0, 0, 0, 0, 0, 0, 0);
        Card.dueDescriptor(plain, Card.RECEIVE_RING, 1, 17, 12, 0, 0, 0, 0, 0, 0);
    }

    private static void allElseStays() {
        RingDriver driver = new RingDriver();
        States.roundTheEnd(driver);
        Check.due("withdraw", driver.withdraw(), 5);
        Check.due("sending", driver.sending(), 5);
        boolean[] posted = {true, true, true, false, false, false, true, true};
        for (int slot = 0; slot < 8; slot++) {
            Card.dueReadable(driver, slot, posted[slot]);
        }
        for (int i = 0; i < 16; i++) {
            Check.due("taken(" + i + ")", driver.taken(i), 200 + i);
        }
        Check.due("revoke", driver.revoke(), 5);
    }
}
