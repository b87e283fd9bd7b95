import java.lang.management.ManagementFactory;

/**
 * All calls of one run live in one room, so calls must make next to nothing: 500 of each of the dearest ones on full
 * plates are measured by what the thread allocates. Each plate stays below its 512 calls.
 */
public final class RoomTest {
    private static final int PLATES = 5;
    private static final int ROUNDS = 100;
    private static final long MOST_BYTES = 64 * 1024;
    private static final com.sun.management.ThreadMXBean MEMORY =
        (com.sun.management.ThreadMXBean) ManagementFactory.getThreadMXBean();
    private static int wrong = 0;

    private static ArcPlate fullPlate() {
        ArcPlate plate = new ArcPlate();
        for (int t = 0; t < 12; t++) {
            plate.addTrail();
            plate.addStar(300 * t + 7, 30000 * t, 5);
            for (int p = 0; p < 12; p++) {
                plate.addPoint(t, 80 * p + t, (2477 * p + 613 * t) % 4001, (1201 * p + 997 * t) % 4001);
            }
        }
        plate.set(5, 5000);
        String text = "back 7;search 512;set 3 9;pole 1 1;";
        for (int i = 0; i < text.length(); i++) {
            plate.type(text.charAt(i));
        }
        return plate;
    }

    private static void make(ArcPlate plate, int call, int round) {
        switch (call) {
            case 0 -> plate.bestZero();
            case 1 -> plate.bestDrift(5);
            case 2 -> {
                plate.setPole(round, 6000 - round);
                plate.search(512);
            }
            case 3 -> {
                plate.set(0, round);
                plate.digest();
            }
            case 4 -> plate.runCommands();
            default -> {
                plate.removeTrail(0);
                plate.undo();
                plate.whole(4);
            }
        }
    }

    public static void main(String[] args) {
        String[] calls = {"bestZero", "bestDrift", "setPole and search", "set and digest", "runCommands",
            "removeTrail, undo and whole"};
        long self = Thread.currentThread().getId();
        for (int call = 0; call < calls.length; call++) {
            long made = 0;
            for (int n = 0; n < PLATES; n++) {
                ArcPlate plate = fullPlate();
                make(plate, call, 0);
                long before = MEMORY.getThreadAllocatedBytes(self);
                for (int round = 0; round < ROUNDS; round++) {
                    make(plate, call, round);
                }
                made += MEMORY.getThreadAllocatedBytes(self) - before;
            }
            if (made > MOST_BYTES) {
                wrong++;
                System.out.println(PLATES * ROUNDS + " calls of " + calls[call] + " made " + made + " bytes");
            }
        }
        System.out.println(wrong == 0 ? "calls make next to nothing" : wrong + " calls make too much");
        if (wrong != 0) {
            System.exit(1);
        }
    }
}
