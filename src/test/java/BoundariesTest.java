import java.util.ArrayList;
import java.util.List;

/** Promises 1 to 47: each sentence of the document that names a boundary case, with a test of its own. */
public final class BoundariesTest {
    public static void main(String[] args) throws Exception {
        Sentence.holds(Sentence.TERMS, "An object is used for at most 512 calls after it has been made;",
            BoundariesTest::the512thCall);
        PendulumBoundaries.all();
        PredictionBoundaries.all();
        RelayBoundaries.all();
        ProgramBoundaries.all();
        UndoBoundaries.all();
        Sentence.lookIntoTheDocument();
        Check.finish("BoundariesTest");
    }

    private static void the512thCall() {
        PendulumGym gym = new PendulumGym();
        for (int call = 1; call < 512; call++) {
            gym.pass(500);
        }
        Sentence.due("clock(), the 512th call", gym.clock(), 511 * 500);
        PendulumGym undone = new PendulumGym();
        for (int call = 1; call < 512; call++) {
            undone.pass(1);
        }
        Sentence.due("undo(), the 512th call", undone.undo(), 7);
        List<Integer> ends = new ArrayList<>();
        for (int last = 0; last < 2; last++) {
            PendulumGym late = Check.gymWith(99, 94);
            late.push(0, 60);
            for (int call = 0; call < 507; call++) {
                late.setFriction(call % 31);
            }
            late.push(1, 60);
            ends.add(last == 0 ? late.meeting(0, 1) : late.meetingByDivisors(0, 1));
        }
        Sentence.due("meeting and meetingByDivisors, the 512th call", ends, List.of(59 * 58, 59 * 58));
    }
}
