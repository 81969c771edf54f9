/** With a card that keeps to its rules, frames go out and come in whole, in order, each once. */
final class FramesThroughTest {
    private static final int FRAMES = 9;

    public static void main(String[] args) {
        framesGoRound();
        Check.end();
    }

    /** The card sends back each frame that it finds to send; more of them than a ring has slots. */
    private static void framesGoRound() {
        RingDriver driver = new RingDriver();
        for (int frame = 0; frame < FRAMES; frame++) {
            int slot = frame % 8;
            int length = 1 + frame * 5 % 16;
            for (int i = 0; i < length; i++) {
                driver.load(i, 16 * frame + i);
            }
            Check.due("send", driver.send(length), slot);
            Check.due("post", driver.post(), slot);
            echo(driver, slot);
            Check.due("reclaim", driver.reclaim(), 1);
            Check.due("receive", driver.receive(), length);
            for (int i = 0; i < length; i++) {
                Check.due("byte " + i, driver.taken(i), (16 * frame + i) & 255);
            }
        }
        Check.due("faults", driver.faults(), 0);
    }

    private static void echo(RingDriver driver, int slot) {
        int from = 16 * driver.deviceRead(Card.TRANSMIT_RING + 8 * slot);
        int to = 16 * driver.deviceRead(Card.RECEIVE_RING + 8 * slot);
        int length = driver.deviceRead(Card.lengthAddress(Card.TRANSMIT_RING, slot));
        for (int i = 0; i < length; i++) {
            driver.deviceWrite(to + i, driver.deviceRead(from + i));
        }
        Card.deliver(driver, slot, length);
        Card.setOwner(driver, Card.TRANSMIT_RING, slot, 0);
    }
}
