import java.util.List;
import java.util.function.Consumer;

/** Promise 6, its boundary cases. */
final class Edges06SendTest {
    private static final int[] WRONG_LENGTHS = {
        0, -1, -15, -16, -17, 17, 18, 32, 255, 256, 257, 272, 65537, Integer.MIN_VALUE, Integer.MAX_VALUE
    };

    public static void main(String[] args) {
        Check.sentence("The first length bytes of the out box are a frame: every length",
            Edges06SendTest::everyLength);
        Check.sentence("and zeros behind them", Edges06SendTest::zerosBehindTheFrame);
        Check.sentence("it is posted with that length; the slot: each slot from each t",
            Edges06SendTest::eachSlot);
        Check.sentence("-2 if length is not 1 .. 16", Edges06SendTest::wrongLengths);
        Check.sentence("-2 if length is not 1 .. 16: then nothing is posted",
            Edges06SendTest::wrongLengthsChangeNothing);
        Check.sentence("-2; else -1: a wrong length comes before eight posted ones",
            Edges06SendTest::wrongLengthsOnAFullRing);
        Check.sentence("-1 if eight are posted", Edges06SendTest::eightAreFull);
        Check.sentence("-1 if eight are posted: seven are not", Edges06SendTest::sevenAreNot);
        Check.sentence("-1 if eight are posted: though the card has given some back",
            Edges06SendTest::givenBackOnesAreStillPosted);
        Check.sentence("(then nothing changes)", Edges06SendTest::aRefusedFrameChangesNothing);
        Check.sentence("the out box stays", Edges06SendTest::theOutBoxStays);
        Check.end();
    }

    private static void everyLength() {
        for (int length = 1; length <= 16; length++) {
            RingDriver driver = new RingDriver();
            Card.loadAll(driver, 100);
            Check.due("send(" + length + ")", driver.send(length), 0);
            Card.dueDescriptor(driver, Card.TRANSMIT_RING, 0, 8, length, 1, 0, 0, 0, 0, 0);
            for (int i = 0; i < length; i++) {
                Check.due("length " + length + ", byte " + i, driver.deviceRead(128 + i), 100 + i);
            }
        }
    }

    /** The out box and the slot's last frame both have other bytes where the zeros must stand. */
    private static void zerosBehindTheFrame() {
        for (int length = 1; length <= 16; length++) {
            RingDriver driver = new RingDriver();
            Card.loadAll(driver, 100);
            Check.due("send(16)", driver.send(16), 0);
            Check.due("revoke", driver.revoke(), 1);
            Check.due("send(" + length + ")", driver.send(length), 0);
            for (int i = length; i < 16; i++) {
                Check.due("length " + length + ", byte " + i, driver.deviceRead(128 + i), 0);
            }
            Check.due("its last byte", driver.deviceRead(127 + length), 99 + length);
        }
    }

    private static void eachSlot() {
        for (int first = 0; first < 8; first++) {
            RingDriver driver = new RingDriver();
            States.startTransmitAt(driver, first);
            for (int n = 0; n < 8; n++) {
                int slot = (first + n) % 8;
                Check.due("t " + first + ", send " + n, driver.send(1 + n), slot);
                Card.dueDescriptor(driver, Card.TRANSMIT_RING, slot, 8 + slot, 1 + n, 1, 0, 0, 0, 0, 0);
                Card.dueReadable(driver, slot, true);
                Check.due("sending", driver.sending(), 1 + n);
            }
        }
    }

    private static void wrongLengths() {
        for (int length : WRONG_LENGTHS) {
            RingDriver driver = new RingDriver();
            Check.due("send(" + length + ")", driver.send(length), -2);
            Check.due("sending", driver.sending(), 0);
        }
    }

    private static void wrongLengthsChangeNothing() {
        for (int length : WRONG_LENGTHS) {
            Twins.unchangedBy("send(" + length + ")", States.ALL, driver -> driver.send(length));
        }
    }

    private static void wrongLengthsOnAFullRing() {
        for (Consumer<RingDriver> full : States.FULL) {
            for (int length : WRONG_LENGTHS) {
                RingDriver driver = new RingDriver();
                full.accept(driver);
                Check.due("send(" + length + ")", driver.send(length), -2);
            }
        }
    }

    private static void eightAreFull() {
        for (int first = 0; first < 8; first++) {
            RingDriver driver = new RingDriver();
            States.startTransmitAt(driver, first);
            Card.sendMany(driver, 8, first);
            for (int length = 1; length <= 16; length++) {
                Check.due("t " + first + ", send(" + length + ")", driver.send(length), -1);
            }
            Check.due("sending", driver.sending(), 8);
        }
    }

    private static void sevenAreNot() {
        for (int first = 0; first < 8; first++) {
            RingDriver driver = new RingDriver();
            States.startTransmitAt(driver, first);
            Card.postMany(driver, 8, 0);
            Card.sendMany(driver, 8, first);
            Card.setOwner(driver, Card.TRANSMIT_RING, first, 0);
            Check.due("reclaim", driver.reclaim(), 1);
            Check.due("the eighth", driver.send(1), first);
            Check.due("the ninth", driver.send(1), -1);
        }
    }

    private static void givenBackOnesAreStillPosted() {
        RingDriver driver = new RingDriver();
        Card.sendMany(driver, 8, 0);
        Card.scribbleOverRings(driver, 0);
        Check.due("send", driver.send(1), -1);
        Check.due("sending", driver.sending(), 8);
        Check.due("reclaim", driver.reclaim(), 8);
        Check.due("send", driver.send(1), 0);
    }

    private static void aRefusedFrameChangesNothing() {
        List<Consumer<RingDriver>> states = List.of(
            States::full, States::fullRoundTheEnd, Edges06SendTest::fullAndScribbled);
        int[] lengths = {1, 2, 15, 16};
        for (int length : lengths) {
            Twins.unchangedBy("send(" + length + ")", states, driver ->
                Check.due("send(" + length + ")", driver.send(length), -1));
        }
    }

    private static void fullAndScribbled(RingDriver driver) {
        States.fullRoundTheEnd(driver);
        Card.scribbleOverRings(driver, 0);
    }

    private static void theOutBoxStays() {
        RingDriver driver = new RingDriver();
        Card.loadAll(driver, 33);
        int[] lengths = {1, 16, 0, 17, 3};
        for (int length : lengths) {
            driver.send(length);
        }
        Check.due("send", driver.send(16), 3);
        for (int i = 0; i < 16; i++) {
            Check.due("byte " + i, driver.deviceRead(128 + 48 + i), 33 + i);
        }
    }
}
