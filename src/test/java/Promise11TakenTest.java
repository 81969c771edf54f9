final class Promise11TakenTest {
    public static void main(String[] args) {
        everyByteOfTheBox();
        wrongPlacesAreRefused();
        theOutBoxIsAnother();
        Check.end();
    }

    private static RingDriver driverWithFrame() {
        RingDriver driver = new RingDriver();
        driver.post();
        Card.fillReceiveBuffer(driver, 0, 240);
        Card.deliver(driver, 0, 16);
        Check.due("receive", driver.receive(), 16);
        return driver;
    }

    private static void everyByteOfTheBox() {
        RingDriver driver = driverWithFrame();
        for (int i = 0; i < 16; i++) {
            Check.due("taken(" + i + ")", driver.taken(i), 240 + i);
            Check.due("taken(" + i + ") again", driver.taken(i), 240 + i);
        }
    }

    private static void wrongPlacesAreRefused() {
        RingDriver driver = driverWithFrame();
        for (int place : Card.WRONG_PLACES) {
            Check.due("taken(" + place + ")", driver.taken(place), -1);
        }
        Check.due("faults", driver.faults(), 0);
    }

    private static void theOutBoxIsAnother() {
        RingDriver driver = driverWithFrame();
        Card.loadAll(driver, 1);
        Check.due("taken(0)", driver.taken(0), 240);
        Check.due("taken(15)", driver.taken(15), 255);
    }
}
