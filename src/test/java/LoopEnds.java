import com.sun.source.tree.AssignmentTree;
import com.sun.source.tree.BinaryTree;
import com.sun.source.tree.CompoundAssignmentTree;
import com.sun.source.tree.ExpressionTree;
import com.sun.source.tree.ForLoopTree;
import com.sun.source.tree.IdentifierTree;
import com.sun.source.tree.LiteralTree;
import com.sun.source.tree.MemberSelectTree;
import com.sun.source.tree.Tree;
import com.sun.source.tree.UnaryTree;
import com.sun.source.tree.VariableTree;
import com.sun.source.util.TreeScanner;
import java.util.EnumSet;
import java.util.Set;

/**
 * Whether a for loop's end can be seen: a counter of its own, of which its condition's first part
 * wants that it stays on its side of a bound, which only the loop's own step changes.
 */
final class LoopEnds {
    private static final Set<Tree.Kind> BELOW =
            EnumSet.of(Tree.Kind.LESS_THAN, Tree.Kind.LESS_THAN_EQUAL);
    private static final Set<Tree.Kind> ABOVE =
            EnumSet.of(Tree.Kind.GREATER_THAN, Tree.Kind.GREATER_THAN_EQUAL);
    private static final Set<Tree.Kind> UP =
            EnumSet.of(Tree.Kind.POSTFIX_INCREMENT, Tree.Kind.PLUS_ASSIGNMENT);
    private static final Set<Tree.Kind> DOWN =
            EnumSet.of(Tree.Kind.POSTFIX_DECREMENT, Tree.Kind.MINUS_ASSIGNMENT);

    private LoopEnds() {
    }

    static boolean canBeSeen(ForLoopTree loop) {
        if (loop.getInitializer().size() != 1 || loop.getUpdate().size() != 1
                || !(loop.getInitializer().get(0) instanceof VariableTree counter)
                || !(firstPart(loop.getCondition()) instanceof BinaryTree bound)) {
            return false;
        }
        String name = counter.getName().toString();
        ExpressionTree step = loop.getUpdate().get(0).getExpression();
        boolean climbs = BELOW.contains(bound.getKind()) && UP.contains(step.getKind());
        boolean falls = ABOVE.contains(bound.getKind()) && DOWN.contains(step.getKind());
        return (climbs || falls)
                && name.equals(changedBy(step))
                && names(bound.getLeftOperand(), name)
                && isSteady(bound.getRightOperand())
                && !isChangedIn(loop.getStatement(), name);
    }

    private static ExpressionTree firstPart(ExpressionTree condition) {
        return condition instanceof BinaryTree both && both.getKind() == Tree.Kind.CONDITIONAL_AND
                ? firstPart(both.getLeftOperand()) : condition;
    }

    /** A number, a name, or the length of a row. */
    private static boolean isSteady(ExpressionTree bound) {
        return bound instanceof LiteralTree || bound instanceof IdentifierTree
                || bound instanceof MemberSelectTree;
    }

    private static boolean names(ExpressionTree tree, String name) {
        return tree instanceof IdentifierTree && tree.toString().equals(name)
                || tree instanceof BinaryTree sum && sum.getKind() == Tree.Kind.PLUS
                && names(sum.getLeftOperand(), name);
    }

    private static boolean isChangedIn(Tree body, String name) {
        boolean[] changed = {false};
        new TreeScanner<Void, Void>() {
            @Override
            public Void scan(Tree tree, Void nothing) {
                changed[0] |= tree != null && name.equals(changedBy(tree));
                return super.scan(tree, nothing);
            }
        }.scan(body, null);
        return changed[0];
    }

    private static String changedBy(Tree tree) {
        if (tree instanceof AssignmentTree assignment) {
            return assignment.getVariable().toString();
        }
        if (tree instanceof CompoundAssignmentTree assignment) {
            return assignment.getVariable().toString();
        }
        boolean steps = UP.contains(tree.getKind()) || DOWN.contains(tree.getKind())
                || tree.getKind() == Tree.Kind.PREFIX_INCREMENT
                || tree.getKind() == Tree.Kind.PREFIX_DECREMENT;
        return steps && tree instanceof UnaryTree step ? step.getExpression().toString() : "";
    }
}
