import java.util.Random;

/** Runs of calls by chance, always the same ones, whose answers are compared with the model's. */
final class RandomRunsTest {
    private static final int RUNS = 20_000;
    private static final int CALLS = 100;
    private static final int[] ODD = {
        -1, 16, 17, 127, 128, 255, 256, 383, 384, Integer.MIN_VALUE, Integer.MAX_VALUE
    };

    private final Random random;
    private final RingDriver driver = new RingDriver();
    private final Model model = new Model();

    private RandomRunsTest(long seed) {
        random = new Random(seed);
    }

    public static void main(String[] args) {
        for (int seed = 0; seed < RUNS; seed++) {
            RandomRunsTest run = new RandomRunsTest(seed);
            for (int i = 0; i < CALLS; i++) {
                run.call("run " + seed + ", call " + i + ": ");
            }
            run.sweep("run " + seed + ", at the end: ");
        }
        Check.end();
    }

    private void call(String where) {
        int kind = random.nextInt(20);
        switch (kind) {
            case 0, 1, 2 -> send(where, pick(17));
            case 3, 4, 5 -> Check.due(where + "post", driver.post(), model.post());
            case 6 -> Check.due(where + "reclaim", driver.reclaim(), model.reclaim());
            case 7, 8 -> Check.due(where + "receive", driver.receive(), model.receive());
            case 9 -> Check.due(where + "load", true, load(pick(16), random.nextInt()));
            case 10 -> read(where, pick(384));
            case 11, 12 -> write(where, pick(384), random.nextInt());
            case 13, 14, 15, 16 -> write(where, ownerByte(), random.nextInt(4) == 0 ? 3 : 0);
            case 17 -> write(where, ownerByte() - 1, random.nextInt(20));
            default -> rareCall(where);
        }
    }

    private void rareCall(String where) {
        switch (random.nextInt(8)) {
            case 0 -> Check.due(where + "revoke", driver.revoke(), model.revoke());
            case 1 -> Check.due(where + "withdraw", driver.withdraw(), model.withdraw());
            default -> questions(where);
        }
    }

    private int pick(int bound) {
        return random.nextInt(8) == 0 ? ODD[random.nextInt(ODD.length)] : random.nextInt(bound);
    }

    private int ownerByte() {
        return 8 * random.nextInt(16) + 2;
    }

    private void send(String where, int length) {
        Check.due(where + "send(" + length + ")", driver.send(length), model.send(length));
    }

    private boolean load(int i, int v) {
        return driver.load(i, v) == model.load(i, v);
    }

    private void read(String where, int address) {
        Check.due(where + "deviceRead(" + address + ")",
            driver.deviceRead(address), model.deviceRead(address));
    }

    private void write(String where, int address, int value) {
        Check.due(where + "deviceWrite(" + address + ", " + value + ")",
            driver.deviceWrite(address, value), model.deviceWrite(address, value));
    }

    private void questions(String where) {
        Check.due(where + "faults", driver.faults(), model.faults);
        Check.due(where + "sending", driver.sending(), model.transmit.size());
        Check.due(where + "receiving", driver.receiving(), model.receive.size());
        int i = pick(16);
        Check.due(where + "taken(" + i + ")", driver.taken(i), model.taken(i));
    }

    private void sweep(String where) {
        for (int address = 0; address < 256; address++) {
            read(where, address);
        }
        for (int address = 256; address < 384; address += 8) {
            write(where, address, 0);
        }
        for (int i = 0; i < 16; i++) {
            Check.due(where + "taken(" + i + ")", driver.taken(i), model.taken(i));
        }
        questions(where);
    }
}
