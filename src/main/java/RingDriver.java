/**
 * A driver of a network card that moves frames by itself.
 *
 * One object is the driver, the map and the memory; whoever plays the card
 * calls deviceRead and deviceWrite.
 */
public final class RingDriver {
    private static final int ADDRESSES = 384;
    private static final int RINGS_END = 128;
    private static final int TRANSMIT_RING = 0;
    private static final int RECEIVE_RING = 64;

    /** A page, a box and the longest frame are all of this size. */
    private static final int PAGE_BYTES = 16;
    private static final int TRANSMIT_PAGE = 8;
    private static final int RECEIVE_PAGE = 16;

    private static final int SLOTS = 8;
    private static final int SLOT_MASK = 7;
    private static final int DESCRIPTOR_BYTES = 8;
    private static final int LENGTH = 1;
    private static final int OWNER = 2;
    private static final int DRIVER = 0;
    private static final int CARD = 1;
    private static final int BYTE_MASK = 255;

    private static final int REFUSED = -1;
    private static final int WRONG_LENGTH_TO_SEND = -2;
    private static final int WRONG_LENGTH_RECEIVED = -3;

    private final int[] memory;
    private final int[] outBox;
    private final int[] inBox;
    private final SlotQueue transmitQueue;
    private final SlotQueue receiveQueue;
    private int faultCount;

    public RingDriver() {
        memory = new int[ADDRESSES];
        outBox = new int[PAGE_BYTES];
        inBox = new int[PAGE_BYTES];
        transmitQueue = new SlotQueue(TRANSMIT_RING, TRANSMIT_PAGE);
        receiveQueue = new SlotQueue(RECEIVE_RING, RECEIVE_PAGE);
        faultCount = 0;
    }

    public int deviceRead(int address) {
        if (address < 0 || address >= ADDRESSES || !isOpen(address, transmitQueue)) {
            return fault();
        }
        return memory[address];
    }

    public int deviceWrite(int address, int value) {
        if (address < 0 || address >= ADDRESSES || !isOpen(address, receiveQueue)) {
            return fault();
        }
        memory[address] = value & BYTE_MASK;
        return 0;
    }

    public int faults() {
        return faultCount;
    }

    public boolean load(int i, int v) {
        if (i < 0 || i >= PAGE_BYTES) {
            return false;
        }
        outBox[i] = v & BYTE_MASK;
        return true;
    }

    public int send(int length) {
        if (!isFrameLength(length)) {
            return WRONG_LENGTH_TO_SEND;
        }
        return postNext(transmitQueue, length);
    }

    public int reclaim() {
        int reclaimed = 0;
        while (reclaimed < SLOTS && isGivenBack(transmitQueue, 0)) {
            transmitQueue.removeOldest();
            reclaimed++;
        }
        return reclaimed;
    }

    public int revoke() {
        reclaim();
        return closeAllBehind(transmitQueue, 0);
    }

    public int post() {
        return postNext(receiveQueue, 0);
    }

    public int receive() {
        if (!isGivenBack(receiveQueue, 0)) {
            return REFUSED;
        }
        // The card may write the length at any time, so it is read once and
        // the value that was tested is the value that is used.
        int length = memory[receiveQueue.descriptorAt(0) + LENGTH];
        int buffer = receiveQueue.bufferAt(0);
        receiveQueue.removeOldest();
        if (!isFrameLength(length)) {
            return WRONG_LENGTH_RECEIVED;
        }
        for (int i = 0; i < length; i++) {
            inBox[i] = memory[buffer + i];
        }
        return length;
    }

    public int taken(int i) {
        if (i < 0 || i >= PAGE_BYTES) {
            return REFUSED;
        }
        return inBox[i];
    }

    public int withdraw() {
        int kept = 0;
        while (kept < SLOTS && isGivenBack(receiveQueue, kept)) {
            kept++;
        }
        return closeAllBehind(receiveQueue, kept);
    }

    public int sending() {
        return transmitQueue.size();
    }

    public int receiving() {
        return receiveQueue.size();
    }

    private int fault() {
        faultCount++;
        return REFUSED;
    }

    /** The rings are open both ways; of the buffers, only those that the queue has posted. */
    private static boolean isOpen(int address, SlotQueue buffers) {
        return address < RINGS_END || buffers.hasPostedPage(address / PAGE_BYTES);
    }

    private static boolean isFrameLength(int length) {
        return length >= 1 && length <= PAGE_BYTES;
    }

    private boolean isGivenBack(SlotQueue queue, int place) {
        return place < queue.size() && memory[queue.descriptorAt(place) + OWNER] == DRIVER;
    }

    /** Posts the next slot with the first bytes of the out box, so many as the length says. */
    private int postNext(SlotQueue queue, int length) {
        int place = queue.size();
        if (place >= SLOTS) {
            return REFUSED;
        }
        fillBuffer(queue.bufferAt(place), length);
        fillDescriptor(queue.descriptorAt(place), queue.pageAt(place), length);
        queue.addNext();
        return queue.slotAt(place);
    }

    /** The whole page is written, lest the card find old bytes behind the frame. */
    private void fillBuffer(int buffer, int length) {
        for (int i = 0; i < PAGE_BYTES; i++) {
            memory[buffer + i] = i < length ? outBox[i] : 0;
        }
    }

    private void fillDescriptor(int descriptor, int page, int length) {
        memory[descriptor] = page;
        memory[descriptor + LENGTH] = length;
        memory[descriptor + OWNER] = CARD;
        for (int i = OWNER + 1; i < DESCRIPTOR_BYTES; i++) {
            memory[descriptor + i] = 0;
        }
    }

    /** Closes all but the oldest ones, of which it keeps the given number; how many it closed. */
    private int closeAllBehind(SlotQueue queue, int kept) {
        int posted = queue.size();
        for (int place = kept; place < posted; place++) {
            memory[queue.descriptorAt(place) + OWNER] = DRIVER;
        }
        queue.keepOldest(kept);
        return posted - kept;
    }

    /**
     * The posted slots of one ring, the oldest at place 0. It lives outside the
     * memory that the card reaches: what is posted, and so which pages are open,
     * never hangs on what stands in a ring. Whoever changes it has looked at its
     * size first, so that it holds 0 .. 8 slots.
     */
    private static final class SlotQueue {
        private final int ringStart;
        private final int firstPage;
        private int oldest;
        private int posted;

        SlotQueue(int ringStart, int firstPage) {
            this.ringStart = ringStart;
            this.firstPage = firstPage;
            this.oldest = 0;
            this.posted = 0;
        }

        int size() {
            return posted;
        }

        /** The mask keeps every slot in 0 .. 7, and so every address made from it in the memory. */
        int slotAt(int place) {
            return (oldest + place) & SLOT_MASK;
        }

        int pageAt(int place) {
            return firstPage + slotAt(place);
        }

        int bufferAt(int place) {
            return PAGE_BYTES * pageAt(place);
        }

        int descriptorAt(int place) {
            return ringStart + DESCRIPTOR_BYTES * slotAt(place);
        }

        boolean hasPostedPage(int page) {
            int slot = page - firstPage;
            return slot >= 0 && slot < SLOTS && ((slot - oldest) & SLOT_MASK) < posted;
        }

        void addNext() {
            posted++;
        }

        void removeOldest() {
            oldest = slotAt(1);
            posted--;
        }

        void keepOldest(int number) {
            posted = number;
        }
    }
}
