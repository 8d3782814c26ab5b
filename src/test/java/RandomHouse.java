import java.util.Random;

/** A house of eight, drawn by a fixed seed. */
final class RandomHouse {
    private RandomHouse() {
    }

    static HiredClaque of(int seed) {
        Random random = new Random(seed);
        HiredClaque x = new HiredClaque();
        x.set(0, random.nextInt(10));
        x.set(1, 1 + random.nextInt(9));
        x.set(2, random.nextInt(4));
        for (int p = 0; p < 8; p++) {
            x.person(random.nextInt(6), random.nextInt(100), random.nextInt(10), random.nextInt(8));
            x.clap(p, random.nextInt(2));
        }
        return x;
    }
}
