/** The program that README.md shows; ReadmeTests compares both, and what it prints. */
public final class Example {
    public static void main(String[] args) {
        LedgeLevels workshop = new LedgeLevels();

        int level = workshop.begin(0);            // the person 0 begins a level: air over a floor
        workshop.set(level, 12 * 7 + 1, 7);       // a spring of the kind 1 in the column 1, row 7
        workshop.set(level, 12 * 1 + 1, 5);       // the goal high above it, in the row 1
        workshop.setStart(level, 12 * 4);         // the start in the column 0, row 4
        System.out.println("proven with " + workshop.prove(level) + " steps");

        int work = workshop.offer(level);
        int copy = workshop.copy(work, 1);        // the person 1 copies it, and gives it four stars
        workshop.star(work, 1, 4);
        System.out.println("the work " + work + " was copied as the level " + copy);

        int answer = workshop.run(1, work);
        for (int step = 0; answer >= 0 && step < 5; step++) {
            answer = workshop.step(1, step == 0 ? 2 : 1);   // 2 is to the right, 1 neither left nor right
            System.out.println("step " + step + " comes to " + answer);
        }
        System.out.println("the record is " + workshop.record(work));

        // With the strength 2 the spring does not lift a body to the goal any more.
        System.out.println("proofs that are void by that: " + workshop.setSpring(1, 2));
        System.out.println("the work has " + workshop.best(work) + ", the level " + workshop.proof(level));

        try {
            workshop.copy(work, 2);
        } catch (IllegalStateException e) {
            System.out.println("withdrawn works are not copied: still " + workshop.levels() + " levels");
        }
    }
}
