final class Promise04FaultsTest {
    public static void main(String[] args) {
        readsAndWritesCountTogether();
        refusedCallsOfTheDriverAreNoFaults();
        askingChangesNothing();
        Check.end();
    }

    private static void readsAndWritesCountTogether() {
        RingDriver driver = new RingDriver();
        driver.deviceRead(128);
        Check.due("faults", driver.faults(), 1);
        driver.deviceWrite(256, 1);
        Check.due("faults", driver.faults(), 2);
        driver.deviceRead(384);
        driver.deviceWrite(-1, 0);
        Check.due("faults", driver.faults(), 4);
        driver.deviceRead(0);
        driver.deviceWrite(64, 1);
        Check.due("faults after good calls", driver.faults(), 4);
    }

    private static void refusedCallsOfTheDriverAreNoFaults() {
        RingDriver driver = new RingDriver();
        driver.load(16, 1);
        driver.taken(-1);
        driver.send(0);
        driver.receive();
        Card.sendMany(driver, 8, 0);
        Card.postMany(driver, 8, 0);
        driver.send(1);
        driver.post();
        driver.receive();
        Check.due("faults", driver.faults(), 0);
    }

    private static void askingChangesNothing() {
        RingDriver driver = new RingDriver();
        for (int i = 0; i < 500; i++) {
            driver.deviceRead(300);
        }
        Check.due("faults", driver.faults(), 500);
        Check.due("faults again", driver.faults(), 500);
    }
}
