/** Gymnasiums in the middle of things; each call makes a new one, and the ones of one method are all alike. */
final class Gyms {
    /** What stands in the buffer of busy(). */
    static final String TYPED = "tick 9;hang 5";
    /** A program of 60 characters, which stands in the buffer of full(). */
    static final String LONGEST = "tick 500;tick 500;tick 500;tick 500;tick 500;tick 500;tick 5";

    private Gyms() {
    }

    /**
     * Something of all that a call could spoil: 4 pendulums, 3 legs, a snapshot, a card, an error position of 4, a
     * failed command of 1, and more modifications than can be undone. The buffer is empty.
     * Pendulum 0: 36 degrees, period 12, from tick 2. Pendulum 1: 30 degrees, period 30, from tick 6.
     * Pendulum 2: MIDDLE, never pushed. Pendulum 3: 60 degrees, period 59, from tick 14, the present one.
     */
    static PendulumGym ready() {
        PendulumGym gym = Check.withLegs(Check.gymWith(4, 25, 30, 99), 20, 40, 7);
        Check.run(gym, "tick");
        Check.run(gym, "tick 1;cut 7");
        gym.pass(2);
        gym.push(0, 40);
        gym.save();
        gym.pass(4);
        gym.push(1, 30);
        gym.setFriction(10);
        gym.pass(8);
        gym.push(3, 60);
        gym.writeCard(0);
        return gym;
    }

    /** As ready(), with a text in the buffer. */
    static PendulumGym busy() {
        PendulumGym gym = ready();
        Check.type(gym, TYPED);
        return gym;
    }

    /** No room for one more: 8 pendulums, 6 legs, 60 degrees for pendulum 0 and 60 characters in the buffer. */
    static PendulumGym full() {
        PendulumGym gym = Check.withLegs(Check.gymWith(1, 1, 4, 25, 30, 59, 60, 99), 1, 60, 6, 12, 30, 30);
        gym.push(0, 60);
        gym.push(7, 20);
        gym.writeCard(7);
        Check.type(gym, LONGEST);
        return gym;
    }

    /** Two modifications alone, so that the refused call could still add one. */
    static PendulumGym quiet() {
        PendulumGym gym = Check.gymWith(49);
        gym.push(0, 20);
        return gym;
    }
}
