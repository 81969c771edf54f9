import java.util.List;
import java.util.function.Consumer;

/** The section "Terms", its boundary cases of the queues, of what the driver reads, and of the boxes. */
final class EdgesTermsQueueTest {
    public static void main(String[] args) {
        Check.sentence("it reaches the two rings and the buffers posted at that moment and nothing else",
            EdgesTermsQueueTest::theCardReachesOnlyWhatIsPosted);
        Check.sentence("it finds no old bytes", EdgesTermsQueueTest::theCardFindsNoOldBytes);
        Check.sentence("it cannot change a frame that the driver has taken: its page is closed",
            EdgesTermsQueueTest::aTakenFrameStays);
        Check.sentence("it cannot change a frame that the driver has taken: its slot is posted again",
            EdgesTermsQueueTest::aTakenFrameStaysWhenItsSlotIsPostedAgain);
        Check.sentence("frames go out and come in whole, in order, each once",
            EdgesTermsQueueTest::fullRingsOfFramesKeepTheirOrder);
        Check.sentence("a slot that is posted comes into (t + their number) % 8: transmit",
            EdgesTermsQueueTest::transmitSlotsModuloEight);
        Check.sentence("a slot that is posted comes into (t + their number) % 8: receive",
            EdgesTermsQueueTest::receiveSlotsModuloEight);
        Check.sentence("taking the oldest out makes t one more (modulo 8): transmit, again and again",
            EdgesTermsQueueTest::transmitSlotsManyTimesRound);
        Check.sentence("taking the oldest out makes t one more (modulo 8): receive, again and again",
            EdgesTermsQueueTest::receiveSlotsManyTimesRound);
        Check.sentence("t is 0 at first", EdgesTermsQueueTest::bothStartAtZero);
        Check.sentence("The posted receive slots are another queue", EdgesTermsQueueTest::theQueuesAreTwo);
        Check.sentence("To POST: its descriptor's bytes become the page, the length, 1, 0, 0, 0, 0, 0",
            EdgesTermsQueueTest::postingWritesTheWholeDescriptor);
        Check.sentence("To CLOSE a slot: its descriptor stays: reclaim",
            EdgesTermsQueueTest::reclaimedDescriptorsStay);
        Check.sentence("To CLOSE a slot: its descriptor stays: receive",
            EdgesTermsQueueTest::receivedDescriptorsStay);
        Check.sentence("the driver reads nothing but the owner bytes of posted slots, and the length byte in receive",
            EdgesTermsQueueTest::theDriverBelievesNothingElse);
        Check.sentence("the length byte in receive (of no transmit slot, and nowhere else)",
            EdgesTermsQueueTest::transmitLengthsAreNotRead);
        Check.sentence("an OUT BOX and an IN BOX, which the card never reaches",
            EdgesTermsQueueTest::theCardDoesNotReachTheBoxes);
        Check.sentence("an OUT BOX and an IN BOX: none but load changes the one, none but receive the other",
            EdgesTermsQueueTest::otherCallsLeaveTheBoxes);
        Check.sentence("(the boxes are) all 0 at first", EdgesTermsQueueTest::boxesAreZeroAtFirst);
        Check.sentence("Questions (faults, sending, receiving, taken) change nothing",
            EdgesTermsQueueTest::questionsChangeNothing);
        Check.sentence("An object is used for at most 512 calls", EdgesTermsQueueTest::allCallsOfAnObject);
        Check.end();
    }

    private static void theCardReachesOnlyWhatIsPosted() {
        RingDriver driver = new RingDriver();
        States.roundTheEnd(driver);
        Card.scribbleOverRings(driver, 12);
        boolean[] posted = {true, true, true, false, false, false, true, true};
        for (int k = 0; k < 8; k++) {
            Card.dueReadable(driver, k, posted[k]);
            Card.dueWritable(driver, k, posted[k]);
            Check.due("a receive page is not read", driver.deviceRead(256 + 16 * k), -1);
            Check.due("a transmit page is not written", driver.deviceWrite(128 + 16 * k, 1), -1);
        }
        Check.due("faults", driver.faults(), 28);
    }

    private static void theCardFindsNoOldBytes() {
        for (int length = 1; length <= 16; length++) {
            RingDriver driver = new RingDriver();
            Card.loadAll(driver, 100);
            Card.sendMany(driver, 8, 0);
            Check.due("revoke", driver.revoke(), 8);
            Card.loadAll(driver, 200);
            for (int k = 0; k < 8; k++) {
                Check.due("send", driver.send(length), k);
            }
            for (int address = 128; address < 256; address++) {
                int want = address % 16 < length ? 200 + address % 16 : 0;
                Check.due("length " + length + ", deviceRead(" + address + ")", driver.deviceRead(address), want);
            }
        }
    }

    private static void aTakenFrameStays() {
        RingDriver driver = new RingDriver();
        Card.postMany(driver, 8, 0);
        Card.fillReceiveBuffer(driver, 0, 60);
        Card.deliver(driver, 0, 16);
        Check.due("receive", driver.receive(), 16);
        for (int address = 0; address < 384; address++) {
            driver.deviceWrite(address, 3);
        }
        for (int i = 0; i < 16; i++) {
            Check.due("taken(" + i + ")", driver.taken(i), 60 + i);
        }
        Check.due("the next one is not given back", driver.receive(), -1);
        Check.due("taken(0)", driver.taken(0), 60);
    }

    private static void aTakenFrameStaysWhenItsSlotIsPostedAgain() {
        for (int first = 0; first < 8; first++) {
            RingDriver driver = new RingDriver();
            States.startReceiveAt(driver, first);
            Card.postMany(driver, 8, first);
            Card.fillReceiveBuffer(driver, first, 60);
            Card.deliver(driver, first, 16);
            Check.due("receive", driver.receive(), 16);
            Check.due("post", driver.post(), first);
            Check.due("taken(15)", driver.taken(15), 75);
            Card.fillReceiveBuffer(driver, first, 180);
            for (int i = 0; i < 16; i++) {
                Check.due("taken(" + i + ")", driver.taken(i), 60 + i);
            }
        }
    }

    private static void fullRingsOfFramesKeepTheirOrder() {
        for (int first = 0; first < 8; first++) {
            RingDriver driver = new RingDriver();
            States.startAt(driver, first);
            for (int n = 0; n < 8; n++) {
                driver.load(0, 10 + n);
                Check.due("send", driver.send(1), (first + n) % 8);
                Check.due("post", driver.post(), (first + n) % 8);
            }
            for (int n = 0; n < 8; n++) {
                int slot = (first + n) % 8;
                driver.deviceWrite(256 + 16 * slot, driver.deviceRead(128 + 16 * slot));
                Card.deliver(driver, slot, 1);
                Card.setOwner(driver, Card.TRANSMIT_RING, slot, 0);
            }
            Check.due("reclaim", driver.reclaim(), 8);
            for (int n = 0; n < 8; n++) {
                Check.due("receive", driver.receive(), 1);
                Check.due("frame " + n, driver.taken(0), 10 + n);
            }
            Check.due("each once", driver.receive(), -1);
        }
    }

    private static void transmitSlotsModuloEight() {
        for (int first = 0; first < 8; first++) {
            RingDriver driver = new RingDriver();
            States.startTransmitAt(driver, first);
            for (int n = 0; n < 8; n++) {
                int slot = (first + n) % 8;
                driver.load(0, 30 + n);
                Check.due("t " + first + ", send " + n, driver.send(1), slot);
                Check.due("its buffer", driver.deviceRead(128 + 16 * slot), 30 + n);
                Card.dueDescriptor(driver, Card.TRANSMIT_RING, slot, 8 + slot, 1, 1);
            }
            Check.due("t " + first + ", the ninth", driver.send(1), -1);
        }
    }

    private static void receiveSlotsModuloEight() {
        for (int first = 0; first < 8; first++) {
            RingDriver driver = new RingDriver();
            States.startReceiveAt(driver, first);
            for (int n = 0; n < 8; n++) {
                int slot = (first + n) % 8;
                Check.due("t " + first + ", post " + n, driver.post(), slot);
                Check.due("its buffer", driver.deviceWrite(256 + 16 * slot, 30 + n), 0);
                Card.dueDescriptor(driver, Card.RECEIVE_RING, slot, 16 + slot, 0, 1);
            }
            Check.due("t " + first + ", the ninth", driver.post(), -1);
            for (int n = 0; n < 8; n++) {
                Card.deliver(driver, (first + n) % 8, 1);
                Check.due("receive", driver.receive(), 1);
                Check.due("taken(0)", driver.taken(0), 30 + n);
            }
        }
    }

    private static void transmitSlotsManyTimesRound() {
        RingDriver driver = new RingDriver();
        for (int n = 0; n < 170; n++) {
            Check.due("send " + n, driver.send(1), n % 8);
            Card.setOwner(driver, Card.TRANSMIT_RING, n % 8, 0);
            Check.due("reclaim " + n, driver.reclaim(), 1);
        }
    }

    private static void receiveSlotsManyTimesRound() {
        RingDriver driver = new RingDriver();
        for (int n = 0; n < 170; n++) {
            Check.due("post " + n, driver.post(), n % 8);
            Card.setOwner(driver, Card.RECEIVE_RING, n % 8, 0);
            driver.receive();
        }
    }

    private static void bothStartAtZero() {
        RingDriver driver = new RingDriver();
        Check.due("send", driver.send(1), 0);
        Check.due("post", driver.post(), 0);
    }

    private static void theQueuesAreTwo() {
        for (int first = 0; first < 8; first++) {
            RingDriver driver = new RingDriver();
            States.startTransmitAt(driver, first);
            Check.due("post", driver.post(), 0);
            Check.due("send", driver.send(1), first);
            RingDriver other = new RingDriver();
            States.startReceiveAt(other, first);
            Check.due("send", other.send(1), 0);
            Check.due("post", other.post(), first);
        }
    }

    private static void postingWritesTheWholeDescriptor() {
        int[] marks = {0, 1, 255};
        for (int mark : marks) {
            RingDriver driver = new RingDriver();
            Card.scribbleOverRings(driver, mark);
            for (int k = 0; k < 8; k++) {
                Check.due("send", driver.send(16 - k), k);
                Check.due("post", driver.post(), k);
                Card.dueDescriptor(driver, Card.TRANSMIT_RING, k, 8 + k, 16 - k, 1, 0, 0, 0, 0, 0);
                Card.dueDescriptor(driver, Card.RECEIVE_RING, k, 16 + k, 0, 1, 0, 0, 0, 0, 0);
            }
        }
    }

    private static void reclaimedDescriptorsStay() {
        RingDriver driver = new RingDriver();
        Card.sendMany(driver, 8, 0);
        Card.scribbleOverRings(driver, 44);
        for (int k = 0; k < 8; k++) {
            Card.setOwner(driver, Card.TRANSMIT_RING, k, 0);
        }
        Check.due("reclaim", driver.reclaim(), 8);
        for (int k = 0; k < 8; k++) {
            Card.dueDescriptor(driver, Card.TRANSMIT_RING, k, 44, 44, 0, 44, 44, 44, 44, 44);
            Card.dueDescriptor(driver, Card.RECEIVE_RING, k, 44, 44, 44, 44, 44, 44, 44, 44);
        }
    }

    private static void receivedDescriptorsStay() {
        RingDriver driver = new RingDriver();
        Card.postMany(driver, 8, 0);
        Card.scribbleOverRings(driver, 44);
        int[] lengths = {0, 1, 16, 17, 255, 8, 0, 1};
        for (int k = 0; k < 8; k++) {
            Card.deliver(driver, k, lengths[k]);
            driver.receive();
        }
        for (int k = 0; k < 8; k++) {
            Card.dueDescriptor(driver, Card.RECEIVE_RING, k, 44, lengths[k], 0, 44, 44, 44, 44, 44);
            Card.dueDescriptor(driver, Card.TRANSMIT_RING, k, 44, 44, 44, 44, 44, 44, 44, 44);
        }
    }

    private static void theDriverBelievesNothingElse() {
        int[] marks = {0, 1, 9, 17, 255};
        for (int mark : marks) {
            RingDriver driver = new RingDriver();
            States.roundTheEnd(driver);
            Card.setOwner(driver, Card.TRANSMIT_RING, 6, 0);
            Card.setOwner(driver, Card.TRANSMIT_RING, 0, 0);
            Card.fillReceiveBuffer(driver, 6, 40);
            Card.deliver(driver, 6, 2);
            scribbleOverAllThatIsNotRead(driver, mark);
            Check.due("sending", driver.sending(), 5);
            Check.due("receiving", driver.receiving(), 5);
            Check.due("withdraw", driver.withdraw(), 4);
            Check.due("receive", driver.receive(), 2);
            Check.due("taken(1)", driver.taken(1), 41);
            Check.due("receive", driver.receive(), -1);
            Check.due("post", driver.post(), 7);
            Check.due("reclaim", driver.reclaim(), 1);
            Check.due("send", driver.send(1), 3);
            Check.due("revoke", driver.revoke(), 5);
            Check.due("send", driver.send(1), 7);
        }
    }

    /** Posted are 6, 7, 0, 1, 2 of both rings: their owners stay, and the length of the received one. */
    private static void scribbleOverAllThatIsNotRead(RingDriver driver, int mark) {
        for (int address = 0; address < 128; address++) {
            int slot = address / 8 % 8;
            boolean owner = address % 8 == 2 && (slot < 3 || slot > 5);
            boolean length = address == Card.lengthAddress(Card.RECEIVE_RING, 6);
            if (!owner && !length) {
                driver.deviceWrite(address, mark);
            }
        }
    }

    private static void transmitLengthsAreNotRead() {
        int[] lengths = {0, 1, 17, 255};
        for (int length : lengths) {
            RingDriver driver = new RingDriver();
            Card.sendMany(driver, 2, 0);
            Card.setLength(driver, Card.TRANSMIT_RING, 0, length);
            Check.due("reclaim", driver.reclaim(), 0);
            Card.setOwner(driver, Card.TRANSMIT_RING, 0, 0);
            Check.due("reclaim", driver.reclaim(), 1);
            Card.postMany(driver, 2, 0);
            Card.setLength(driver, Card.RECEIVE_RING, 0, length);
            Check.due("receive", driver.receive(), -1);
            Card.setOwner(driver, Card.RECEIVE_RING, 0, 0);
            Check.due("withdraw", driver.withdraw(), 1);
            Check.due("receiving", driver.receiving(), 1);
        }
    }

    private static void theCardDoesNotReachTheBoxes() {
        RingDriver driver = new RingDriver();
        Card.loadAll(driver, 80);
        driver.post();
        Card.fillReceiveBuffer(driver, 0, 140);
        Card.deliver(driver, 0, 16);
        Check.due("receive", driver.receive(), 16);
        for (int address = -8; address < 400; address++) {
            driver.deviceWrite(address, 1);
        }
        Check.due("taken(0)", driver.taken(0), 140);
        Check.due("taken(15)", driver.taken(15), 155);
        Check.due("send", driver.send(16), 0);
        for (int i = 0; i < 16; i++) {
            Check.due("byte " + i + " of the out box", driver.deviceRead(128 + i), 80 + i);
        }
    }

    private static void otherCallsLeaveTheBoxes() {
        RingDriver driver = new RingDriver();
        States.roundTheEnd(driver);
        Card.setOwner(driver, Card.TRANSMIT_RING, 6, 0);
        Check.due("reclaim", driver.reclaim(), 1);
        Check.due("send", driver.send(1), 3);
        Check.due("send", driver.send(17), -2);
        Check.due("post", driver.post(), 3);
        Check.due("withdraw", driver.withdraw(), 6);
        Check.due("revoke", driver.revoke(), 5);
        for (int i = 0; i < 16; i++) {
            Check.due("byte " + i + " of the in box", driver.taken(i), 200 + i);
        }
        Check.due("post", driver.post(), 6);
        Card.deliver(driver, 6, 16);
        Check.due("receive", driver.receive(), 16);
        Check.due("send", driver.send(16), 7);
        for (int i = 0; i < 16; i++) {
            Check.due("byte " + i + " of the out box", driver.deviceRead(128 + 7 * 16 + i), 90 + i);
        }
    }

    private static void boxesAreZeroAtFirst() {
        RingDriver driver = new RingDriver();
        Card.dueInBox(driver);
        Check.due("send", driver.send(16), 0);
        for (int i = 0; i < 16; i++) {
            Check.due("byte " + i + " of the out box", driver.deviceRead(128 + i), 0);
        }
    }

    private static void questionsChangeNothing() {
        List<Consumer<RingDriver>> questions = List.of(
            RingDriver::faults, RingDriver::sending, RingDriver::receiving,
            driver -> driver.taken(0), driver -> driver.taken(15),
            driver -> driver.taken(-1), driver -> driver.taken(16));
        for (int i = 0; i < questions.size(); i++) {
            Twins.unchangedBy("question " + i, States.ALL, questions.get(i));
        }
    }

    /** 511 faults, and the 512th call still counts them all. */
    private static void allCallsOfAnObject() {
        RingDriver driver = new RingDriver();
        for (int n = 0; n < 511; n++) {
            int answer = n % 2 == 0 ? driver.deviceRead(384 + n) : driver.deviceWrite(-1 - n, n);
            Check.due("call " + n, answer, -1);
        }
        Check.due("faults", driver.faults(), 511);
    }
}
