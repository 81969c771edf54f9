/** Promise 7, its boundary cases. */
final class Edges07ReclaimTest {
    public static void main(String[] args) {
        Check.sentence("While some transmit slot is posted: none is", Edges07ReclaimTest::noneIsPosted);
        Check.sentence("While some transmit slot is posted: it ends when the last one is taken out",
            Edges07ReclaimTest::itEndsWithTheLast);
        Check.sentence("and the owner byte of the oldest one's descriptor is 0: it is not",
            Edges07ReclaimTest::theOldestIsTheCards);
        Check.sentence("and the owner byte of the oldest one's descriptor is 0: no other's counts",
            Edges07ReclaimTest::onlyTheOldestCounts);
        Check.sentence("While ..: one after the other, up to the first that is the card's; How many were",
            Edges07ReclaimTest::upToTheFirstOfTheCards);
        Check.sentence("that one is closed and taken out: the page of that one alone",
            Edges07ReclaimTest::onePageCloses);
        Check.sentence("that one is closed (its descriptor stays)", Edges07ReclaimTest::nothingIsWritten);
        Check.sentence("transmit slots, not receive slots", Edges07ReclaimTest::receiveSlotsStay);
        Check.end();
    }

    private static void noneIsPosted() {
        for (int first = 0; first < 8; first++) {
            RingDriver driver = new RingDriver();
            States.startTransmitAt(driver, first);
            Check.due("reclaim", driver.reclaim(), 0);
            Check.due("sending", driver.sending(), 0);
            Check.due("t stays", driver.send(1), first);
        }
        Twins.unchangedBy("reclaim", States.EMPTY, driver -> Check.due("reclaim", driver.reclaim(), 0));
    }

    private static void itEndsWithTheLast() {
        for (int first = 0; first < 8; first++) {
            for (int number = 1; number <= 8; number++) {
                RingDriver driver = new RingDriver();
                States.startTransmitAt(driver, first);
                Card.sendMany(driver, number, first);
                Card.scribbleOverRings(driver, 0);
                Check.due(number + " posted, reclaim", driver.reclaim(), number);
                Check.due("sending", driver.sending(), 0);
                Check.due("reclaim again", driver.reclaim(), 0);
                Check.due("the next slot", driver.send(1), (first + number) % 8);
            }
        }
    }

    private static void theOldestIsTheCards() {
        Twins.unchangedBy("reclaim", States.FULL, driver -> Check.due("reclaim", driver.reclaim(), 0));
        int[] owners = {1, 2, 127, 128, 255, -1, 257};
        for (int owner : owners) {
            RingDriver driver = new RingDriver();
            driver.send(1);
            Card.setOwner(driver, Card.TRANSMIT_RING, 0, owner);
            Check.due("owner " + owner, driver.reclaim(), 0);
            Check.due("sending", driver.sending(), 1);
            Card.dueReadable(driver, 0, true);
        }
    }

    private static void onlyTheOldestCounts() {
        for (int first = 0; first < 8; first++) {
            RingDriver driver = new RingDriver();
            States.startTransmitAt(driver, first);
            Card.sendMany(driver, 8, first);
            for (int place = 1; place < 8; place++) {
                Card.setOwner(driver, Card.TRANSMIT_RING, (first + place) % 8, 0);
                Check.due("reclaim", driver.reclaim(), 0);
            }
            Card.setOwner(driver, Card.TRANSMIT_RING, first, 0);
            Check.due("reclaim", driver.reclaim(), 8);
        }
    }

    private static void upToTheFirstOfTheCards() {
        for (int first = 0; first < 8; first++) {
            for (int back = 0; back <= 7; back++) {
                RingDriver driver = new RingDriver();
                States.startTransmitAt(driver, first);
                Card.sendMany(driver, 8, first);
                Card.scribbleOverRings(driver, 0);
                Card.setOwner(driver, Card.TRANSMIT_RING, (first + back) % 8, 200);
                Check.due(back + " given back, reclaim", driver.reclaim(), back);
                Check.due("sending", driver.sending(), 8 - back);
                Check.due("reclaim again", driver.reclaim(), 0);
                Check.due("the next slot", driver.send(1), back == 0 ? -1 : first);
            }
        }
    }

    private static void onePageCloses() {
        for (int first = 0; first < 8; first++) {
            RingDriver driver = new RingDriver();
            States.startTransmitAt(driver, first);
            Card.sendMany(driver, 8, first);
            Card.setOwner(driver, Card.TRANSMIT_RING, first, 0);
            Check.due("reclaim", driver.reclaim(), 1);
            for (int slot = 0; slot < 8; slot++) {
                Card.dueReadable(driver, slot, slot != first);
            }
        }
    }

    private static void nothingIsWritten() {
        RingDriver driver = new RingDriver();
        States.full(driver);
        Card.scribbleOverRings(driver, 66);
        for (int slot = 0; slot < 5; slot++) {
            Card.setOwner(driver, Card.TRANSMIT_RING, slot, 0);
        }
        Check.due("reclaim", driver.reclaim(), 5);
        for (int address = 0; address < 128; address++) {
            int want = address < 40 && address % 8 == 2 ? 0 : 66;
            Check.due("deviceRead(" + address + ")", driver.deviceRead(address), want);
        }
    }

    private static void receiveSlotsStay() {
        RingDriver driver = new RingDriver();
        Card.postMany(driver, 8, 0);
        Card.scribbleOverRings(driver, 0);
        Check.due("reclaim", driver.reclaim(), 0);
        Check.due("receiving", driver.receiving(), 8);
        Card.dueWritable(driver, 0, true);
        Card.dueWritable(driver, 7, true);
    }
}
