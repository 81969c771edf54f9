import java.util.List;
import java.util.function.Consumer;

/** Promise 10, its boundary cases. */
final class Edges10ReceiveTest {
    public static void main(String[] args) {
        Check.sentence("-1 if no receive slot is posted", Edges10ReceiveTest::noneIsPosted);
        Check.sentence("-1 if the owner byte of the oldest one's descriptor is not 0",
            Edges10ReceiveTest::theOldestIsTheCards);
        Check.sentence("-1 if the owner byte of the oldest one's descriptor is not 0: no other's counts",
            Edges10ReceiveTest::onlyTheOldestCounts);
        Check.sentence("-1: then none is closed, and the in box stays",
            Edges10ReceiveTest::minusOneChangesNothing);
        Check.sentence("Else that one is closed and taken out: that one alone", Edges10ReceiveTest::oneIsTakenOut);
        Check.sentence("that one is closed (its descriptor stays)", Edges10ReceiveTest::nothingIsWritten);
        Check.sentence("1 .. 16: the first so many bytes of its buffer become the first ones of the in box; that length",
            Edges10ReceiveTest::everyGoodLength);
        Check.sentence("(the others stay)", Edges10ReceiveTest::theOthersStay);
        Check.sentence("0: -3", Edges10ReceiveTest::lengthZero);
        Check.sentence("above 16: -3", Edges10ReceiveTest::everyLengthAboveSixteen);
        Check.sentence("-3, and the in box stays", Edges10ReceiveTest::theBoxStays);
        Check.sentence("-3: that one is closed and taken out too", Edges10ReceiveTest::aWrongLengthTakesTheSlot);
        Check.sentence("receive slots, not transmit slots", Edges10ReceiveTest::transmitSlotsStay);
        Check.end();
    }

    private static RingDriver receiving(int first, int number) {
        RingDriver driver = new RingDriver();
        States.startReceiveAt(driver, first);
        Card.postMany(driver, number, first);
        return driver;
    }

    private static void noneIsPosted() {
        for (int first = 0; first < 8; first++) {
            RingDriver driver = receiving(first, 0);
            Card.scribbleOverRings(driver, 0);
            Check.due("receive", driver.receive(), -1);
            for (int slot = 0; slot < 8; slot++) {
                Card.deliver(driver, slot, 4);
            }
            Check.due("receive", driver.receive(), -1);
            Check.due("receiving", driver.receiving(), 0);
            Check.due("t stays", driver.post(), first);
        }
    }

    private static void theOldestIsTheCards() {
        for (int owner = 1; owner < 256; owner++) {
            RingDriver driver = receiving(0, 1);
            Card.setLength(driver, Card.RECEIVE_RING, 0, 3);
            Card.setOwner(driver, Card.RECEIVE_RING, 0, owner);
            Check.due("owner " + owner, driver.receive(), -1);
            Check.due("receiving", driver.receiving(), 1);
        }
    }

    private static void onlyTheOldestCounts() {
        for (int first = 0; first < 8; first++) {
            RingDriver driver = receiving(first, 8);
            for (int place = 1; place < 8; place++) {
                Card.deliver(driver, (first + place) % 8, 3);
                Check.due("receive", driver.receive(), -1);
            }
            Card.deliver(driver, first, 3);
            for (int place = 0; place < 8; place++) {
                Check.due("receive", driver.receive(), 3);
            }
            Check.due("receive", driver.receive(), -1);
        }
    }

    private static void minusOneChangesNothing() {
        List<Consumer<RingDriver>> states = List.of(
            States::fresh, States::emptied, States::full, States::fullRoundTheEnd,
            States::roundTheEnd, States::scribbled);
        Twins.unchangedBy("receive", states, driver -> Check.due("receive", driver.receive(), -1));
    }

    private static void oneIsTakenOut() {
        for (int first = 0; first < 8; first++) {
            RingDriver driver = receiving(first, 8);
            for (int slot = 0; slot < 8; slot++) {
                Card.deliver(driver, slot, 1);
            }
            Check.due("receive", driver.receive(), 1);
            Check.due("receiving", driver.receiving(), 7);
            for (int slot = 0; slot < 8; slot++) {
                Card.dueWritable(driver, slot, slot != first);
            }
            Check.due("the next slot", driver.post(), first);
        }
    }

    private static void nothingIsWritten() {
        RingDriver driver = receiving(0, 8);
        Card.scribbleOverRings(driver, 66);
        Card.deliver(driver, 0, 16);
        Card.deliver(driver, 1, 17);
        Check.due("receive", driver.receive(), 16);
        driver.receive();
        for (int address = 0; address < 128; address++) {
            int want = switch (address) {
                case 65 -> 16;
                case 73 -> 17;
                case 66, 74 -> 0;
                default -> 66;
            };
            Check.due("deviceRead(" + address + ")", driver.deviceRead(address), want);
        }
    }

    private static void everyGoodLength() {
        for (int first = 0; first < 8; first++) {
            for (int length = 1; length <= 16; length++) {
                RingDriver driver = receiving(first, 2);
                Card.fillReceiveBuffer(driver, first, 201);
                Card.fillReceiveBuffer(driver, (first + 1) % 8, 1);
                Card.deliver(driver, first, length);
                Check.due("length " + length, driver.receive(), length);
                for (int i = 0; i < length; i++) {
                    Check.due("length " + length + ", taken(" + i + ")", driver.taken(i), 201 + i);
                }
            }
        }
    }

    /** The whole box is full of one frame before a shorter one comes, whose buffer is full too. */
    private static void theOthersStay() {
        for (int length = 1; length <= 16; length++) {
            RingDriver driver = receiving(0, 2);
            Card.fillReceiveBuffer(driver, 0, 101);
            Card.fillReceiveBuffer(driver, 1, 201);
            Card.deliver(driver, 0, 16);
            Card.deliver(driver, 1, length);
            Check.due("receive", driver.receive(), 16);
            Check.due("receive", driver.receive(), length);
            Check.due("the last of the frame", driver.taken(length - 1), 200 + length);
            for (int i = length; i < 16; i++) {
                Check.due("length " + length + ", taken(" + i + ")", driver.taken(i), 101 + i);
            }
        }
    }

    private static void lengthZero() {
        for (int first = 0; first < 8; first++) {
            RingDriver driver = receiving(first, 1);
            Card.setOwner(driver, Card.RECEIVE_RING, first, 0);
            Check.due("the length that post put", driver.receive(), -3);
            Check.due("post", driver.post(), (first + 1) % 8);
            Card.deliver(driver, (first + 1) % 8, 0);
            Check.due("the length that the card put", driver.receive(), -3);
        }
    }

    private static void everyLengthAboveSixteen() {
        for (int length = 17; length < 256; length++) {
            RingDriver driver = receiving(0, 1);
            Card.fillReceiveBuffer(driver, 0, 50);
            Card.deliver(driver, 0, length);
            Check.due("length " + length, driver.receive(), -3);
        }
    }

    private static void theBoxStays() {
        int[] lengths = {0, 17, 18, 32, 127, 128, 240, 255};
        for (int length : lengths) {
            RingDriver driver = receiving(0, 2);
            Card.fillReceiveBuffer(driver, 0, 101);
            Card.fillReceiveBuffer(driver, 1, 201);
            Card.deliver(driver, 0, 16);
            Card.deliver(driver, 1, length);
            Check.due("receive", driver.receive(), 16);
            Check.due("length " + length, driver.receive(), -3);
            for (int i = 0; i < 16; i++) {
                Check.due("length " + length + ", taken(" + i + ")", driver.taken(i), 101 + i);
            }
        }
    }

    private static void aWrongLengthTakesTheSlot() {
        int[] lengths = {0, 17, 255};
        for (int length : lengths) {
            for (int first = 0; first < 8; first++) {
                int next = (first + 1) % 8;
                RingDriver driver = receiving(first, 2);
                driver.deviceWrite(256 + 16 * next, 88);
                Card.deliver(driver, first, length);
                Card.deliver(driver, next, 1);
                driver.receive();
                Check.due("receiving", driver.receiving(), 1);
                Card.dueWritable(driver, first, false);
                Check.due("receive", driver.receive(), 1);
                Check.due("taken(0)", driver.taken(0), 88);
                Check.due("the next slot", driver.post(), (first + 2) % 8);
            }
        }
    }

    private static void transmitSlotsStay() {
        RingDriver driver = new RingDriver();
        Card.sendMany(driver, 8, 0);
        Card.scribbleOverRings(driver, 0);
        Check.due("receive", driver.receive(), -1);
        Check.due("sending", driver.sending(), 8);
        Card.postMany(driver, 1, 0);
        Card.deliver(driver, 0, 1);
        Check.due("receive", driver.receive(), 1);
        Check.due("sending", driver.sending(), 8);
        Card.dueReadable(driver, 0, true);
    }
}
