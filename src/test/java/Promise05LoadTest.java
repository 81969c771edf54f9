final class Promise05LoadTest {
    public static void main(String[] args) {
        everyByteOfTheBoxCanBeLoaded();
        theLowestEightBitsCount();
        wrongPlacesAreRefused();
        loadingDoesNotReachAPostedFrame();
        theBoxStaysAfterSending();
        Check.end();
    }

    private static void everyByteOfTheBoxCanBeLoaded() {
        RingDriver driver = new RingDriver();
        Card.loadAll(driver, 50);
        Check.due("load again", driver.load(3, 7), true);
        driver.send(16);
        for (int i = 0; i < 16; i++) {
            Check.due("byte " + i, driver.deviceRead(128 + i), i == 3 ? 7 : 50 + i);
        }
    }

    private static void theLowestEightBitsCount() {
        RingDriver driver = new RingDriver();
        int[] values = {255, 256, 300, -1, -256, Integer.MIN_VALUE, Integer.MAX_VALUE};
        int[] bytes = {255, 0, 44, 255, 0, 0, 255};
        for (int i = 0; i < values.length; i++) {
            Check.due("load", driver.load(i, values[i]), true);
        }
        driver.send(16);
        for (int i = 0; i < values.length; i++) {
            Check.due("byte of " + values[i], driver.deviceRead(128 + i), bytes[i]);
        }
    }

    private static void wrongPlacesAreRefused() {
        RingDriver driver = new RingDriver();
        Card.loadAll(driver, 1);
        for (int place : Card.WRONG_PLACES) {
            Check.due("load(" + place + ")", driver.load(place, 99), false);
        }
        driver.send(16);
        for (int i = 0; i < 16; i++) {
            Check.due("byte " + i, driver.deviceRead(128 + i), 1 + i);
        }
    }

    private static void loadingDoesNotReachAPostedFrame() {
        RingDriver driver = new RingDriver();
        Card.loadAll(driver, 10);
        driver.send(2);
        Card.loadAll(driver, 20);
        Check.due("posted byte 0", driver.deviceRead(128), 10);
        Check.due("posted byte 1", driver.deviceRead(129), 11);
        Card.dueInBox(driver);
    }

    private static void theBoxStaysAfterSending() {
        RingDriver driver = new RingDriver();
        Card.loadAll(driver, 10);
        driver.send(2);
        driver.send(16);
        for (int i = 0; i < 16; i++) {
            Check.due("byte " + i, driver.deviceRead(144 + i), 10 + i);
        }
    }
}
