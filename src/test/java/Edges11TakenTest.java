/** Promise 11, its boundary cases. */
final class Edges11TakenTest {
    public static void main(String[] args) {
        Check.sentence("Byte i of the in box: the first and the last", Edges11TakenTest::firstAndLast);
        Check.sentence("Byte i of the in box: 0 and 255", Edges11TakenTest::smallestAndGreatestByte);
        Check.sentence("-1 if i is not 0 .. 15", Edges11TakenTest::wrongPlaces);
        Check.sentence("-1 if i is not 0 .. 15: before any frame too", Edges11TakenTest::wrongPlacesOfANewBox);
        Check.end();
    }

    private static RingDriver withFrame(int firstValue) {
        RingDriver driver = new RingDriver();
        driver.post();
        Card.fillReceiveBuffer(driver, 0, firstValue);
        Card.deliver(driver, 0, 16);
        Check.due("receive", driver.receive(), 16);
        return driver;
    }

    private static void firstAndLast() {
        RingDriver driver = withFrame(21);
        Check.due("taken(0)", driver.taken(0), 21);
        Check.due("taken(15)", driver.taken(15), 36);
    }

    private static void smallestAndGreatestByte() {
        RingDriver driver = withFrame(255);
        Check.due("taken(0)", driver.taken(0), 255);
        Check.due("taken(1)", driver.taken(1), 0);
    }

    private static void wrongPlaces() {
        RingDriver driver = withFrame(21);
        for (int n = 1; n <= 40; n++) {
            Check.due("taken(" + -n + ")", driver.taken(-n), -1);
            Check.due("taken(" + (15 + n) + ")", driver.taken(15 + n), -1);
        }
        for (int bit = 4; bit < 32; bit++) {
            Check.due("taken(1 << " + bit + ")", driver.taken(1 << bit), -1);
            Check.due("taken(MAX - " + bit + ")", driver.taken(Integer.MAX_VALUE - bit), -1);
        }
        Check.due("taken(MIN)", driver.taken(Integer.MIN_VALUE), -1);
        Check.due("taken(MAX)", driver.taken(Integer.MAX_VALUE), -1);
        Check.due("faults", driver.faults(), 0);
    }

    private static void wrongPlacesOfANewBox() {
        RingDriver driver = new RingDriver();
        for (int place : Card.WRONG_PLACES) {
            Check.due("taken(" + place + ")", driver.taken(place), -1);
        }
        Check.due("taken(0)", driver.taken(0), 0);
        Check.due("taken(15)", driver.taken(15), 0);
    }
}
