import java.util.ArrayDeque;
import java.util.Deque;
import java.util.Iterator;

/**
 * The document once more, for comparison: it keeps open pages and queued slots
 * as lists of their own where RingDriver reckons them.
 */
final class Model {
    final int[] memory = new int[384];
    final int[] outBox = new int[16];
    final int[] inBox = new int[16];
    final boolean[] open = new boolean[24];
    final Deque<Integer> transmit = new ArrayDeque<>();
    final Deque<Integer> receive = new ArrayDeque<>();
    int transmitFirst = 0;
    int receiveFirst = 0;
    int faults = 0;

    int deviceRead(int address) {
        boolean ring = address >= 0 && address < 128;
        boolean buffer = address >= 128 && address < 256 && open[address / 16];
        if (ring || buffer) {
            return memory[address];
        }
        faults++;
        return -1;
    }

    int deviceWrite(int address, int value) {
        boolean ring = address >= 0 && address < 128;
        boolean buffer = address >= 256 && address < 384 && open[address / 16];
        if (ring || buffer) {
            memory[address] = Math.floorMod(value, 256);
            return 0;
        }
        faults++;
        return -1;
    }

    boolean load(int i, int v) {
        boolean good = i >= 0 && i <= 15;
        if (good) {
            outBox[i] = Math.floorMod(v, 256);
        }
        return good;
    }

    int send(int length) {
        if (length < 1 || length > 16) {
            return -2;
        }
        if (transmit.size() == 8) {
            return -1;
        }
        int slot = (transmitFirst + transmit.size()) % 8;
        for (int i = 0; i < 16; i++) {
            memory[128 + 16 * slot + i] = i < length ? outBox[i] : 0;
        }
        describe(8 * slot, 8 + slot, length);
        transmit.addLast(slot);
        return slot;
    }

    int post() {
        if (receive.size() == 8) {
            return -1;
        }
        int slot = (receiveFirst + receive.size()) % 8;
        for (int i = 0; i < 16; i++) {
            memory[256 + 16 * slot + i] = 0;
        }
        describe(64 + 8 * slot, 16 + slot, 0);
        receive.addLast(slot);
        return slot;
    }

    private void describe(int descriptor, int page, int length) {
        int[] bytes = {page, length, 1, 0, 0, 0, 0, 0};
        System.arraycopy(bytes, 0, memory, descriptor, 8);
        open[page] = true;
    }

    int reclaim() {
        int number = 0;
        while (!transmit.isEmpty() && memory[8 * transmit.peekFirst() + 2] == 0) {
            open[8 + transmit.removeFirst()] = false;
            transmitFirst = (transmitFirst + 1) % 8;
            number++;
        }
        return number;
    }

    int revoke() {
        reclaim();
        int number = transmit.size();
        for (int slot : transmit) {
            open[8 + slot] = false;
            memory[8 * slot + 2] = 0;
        }
        transmit.clear();
        return number;
    }

    int receive() {
        if (receive.isEmpty() || memory[64 + 8 * receive.peekFirst() + 2] != 0) {
            return -1;
        }
        int slot = receive.removeFirst();
        receiveFirst = (receiveFirst + 1) % 8;
        open[16 + slot] = false;
        int length = memory[64 + 8 * slot + 1];
        if (length == 0 || length > 16) {
            return -3;
        }
        System.arraycopy(memory, 256 + 16 * slot, inBox, 0, length);
        return length;
    }

    int taken(int i) {
        return i >= 0 && i <= 15 ? inBox[i] : -1;
    }

    int withdraw() {
        boolean leaving = false;
        int number = 0;
        Iterator<Integer> slots = receive.iterator();
        while (slots.hasNext()) {
            int slot = slots.next();
            leaving = leaving || memory[64 + 8 * slot + 2] != 0;
            if (leaving) {
                slots.remove();
                open[16 + slot] = false;
                memory[64 + 8 * slot + 2] = 0;
                number++;
            }
        }
        return number;
    }
}
