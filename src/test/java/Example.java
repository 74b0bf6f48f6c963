public final class Example {
    public static void main(String[] args) {
        PendulumGym gym = new PendulumGym();

        // Pendulums and time
        int small = gym.addPendulum(25);
        int great = gym.addPendulum(64);
        gym.push(small, 40);
        gym.pass(12);
        gym.push(great, 20);
        System.out.println("periods: " + gym.periodOf(small) + " and " + gym.periodOf(great));
        System.out.println("swings in 60 ticks: " + gym.pass(60));
        System.out.println("amplitudes: " + gym.amplitudeOf(small) + " and " + gym.amplitudeOf(great));
        System.out.println("record of the long ones: " + gym.recordOf(PendulumGym.LONG));

        // Predictions
        System.out.println("at rest in tick " + gym.restTick(small) + ", after swings: " + gym.swingsToRest(small));
        System.out.println("they meet in tick " + gym.meeting(small, great));

        // Relays and quotas
        gym.addLeg(50);
        gym.addLeg(29);
        System.out.println("least cost: " + gym.leastRelay() + ", the first leg's runner: " + gym.runnerOf(0));
        System.out.println("pendulums for 6 swings in a week: " + gym.fewestFor(6));

        // The card
        StringBuilder card = new StringBuilder();
        int length = gym.writeCard(small);
        for (int index = 0; index < length; index++) {
            card.append(gym.cardAt(index));
        }
        System.out.println("card: " + card);

        // Programs: all commands or none
        gym.save();
        System.out.println("executed: " + run(gym, "hang 9;push 2 15;tick 36"));
        System.out.println("executed: " + run(gym, "hang 50;tick many"));
        System.out.println("error position: " + gym.errorPosition());
        System.out.println("executed: " + run(gym, "hang 50;tick 501"));
        System.out.println("failed command: " + gym.failedCommand() + ", pendulums: " + gym.pendulumCount());

        // Undo and snapshots
        System.out.println("can still be undone: " + gym.undo() + ", pendulums: " + gym.pendulumCount());
        gym.pass(500);
        System.out.println("back at tick " + gym.restore());
    }

    private static String run(PendulumGym gym, String program) {
        for (char character : program.toCharArray()) {
            gym.type(character);
        }
        try {
            return gym.execute() + " commands";
        } catch (IllegalArgumentException malformed) {
            return "none, it is malformed";
        } catch (IllegalStateException failed) {
            return "none, a command failed";
        }
    }
}
