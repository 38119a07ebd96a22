/-! WHAT THE REFERENCE COMPUTES (by program) -/
theorem xmt_X5_endAll : xm_moT xt_X5_endAll := by
  unfold xt_X5_endAll
  refine xm_moT.s xmo_lift ?_
  refine xm_moT.s xmo_stI ?_
  refine xm_moT.s xmo_ldI ?_
  refine xm_moT.s xmo_lift ?_
  refine xm_moT.s xmo_icmp ?_
  refine xm_moT.s xmo_ldI ?_
  refine xm_moT.s xmo_ldI ?_
  refine xm_moT.s xmo_icmp ?_
  refine xm_moT.s xmo_ldI ?_
  refine xm_moT.s xmo_ldI ?_
  refine xm_moT.c ?_
  refine xm_moT.s xmo_stI ?_
  refine xm_moT.s xmo_ldR ?_
  refine xm_moT.s xmo_getR ?_
  refine xm_moT.s xmo_ldI ?_
  refine xm_moT.s xmo_lift ?_
  refine xm_moT.s xmo_iast ?_
  refine xm_moT.s xmo_ldR ?_
  refine xm_moT.s xmo_getR ?_
  refine xm_moT.s xmo_ldI ?_
  refine xm_moT.s xmo_lift ?_
  refine xm_moT.s xmo_iast ?_
  refine xm_moT.s xmo_ldR ?_
  refine xm_moT.s xmo_getR ?_
  refine xm_moT.s xmo_ldI ?_
  refine xm_moT.s xmo_lift ?_
  refine xm_moT.s xmo_iast ?_
  refine xm_moT.s xmo_ldR ?_
  refine xm_moT.s xmo_getR ?_
  refine xm_moT.s xmo_ldI ?_
  refine xm_moT.s xmo_lift ?_
  refine xm_moT.s xmo_zast ?_
  refine xm_moT.s xmo_inc ?_
  refine xm_moT.s xmo_goto ?_
  refine xm_moT.c ?_
  trivial
theorem xmt_X5_place : xm_moT xt_X5_place := by
  unfold xt_X5_place
  refine xm_moT.s xmo_ldR ?_
  refine xm_moT.s xmo_ldI ?_
  refine xm_moT.c ?_
  refine xm_moT.s xmo_if ?_
  refine xm_moT.s xmo_ldI ?_
  refine xm_moT.s xmo_lift ?_
  refine xm_moT.c ?_
  refine xm_moT.s xmo_if ?_
  refine xm_moT.s xmo_ldI ?_
  refine xm_moT.s xmo_lift ?_
  refine xm_moT.c ?_
  refine xm_moT.s xmo_if ?_
  refine xm_moT.s xmo_ldI ?_
  refine xm_moT.s xmo_lift ?_
  refine xm_moT.c ?_
  refine xm_moT.s xmo_if ?_
  refine xm_moT.s xmo_lift ?_
  refine xm_moT.s xmo_goto ?_
  refine xm_moT.s xmo_lift ?_
  refine xm_moT.s xmo_putI ?_
  refine xm_moT.s xmo_ldR ?_
  refine xm_moT.s xmo_getI ?_
  refine xm_moT.s xmo_if ?_
  refine xm_moT.c ?_
  refine xm_moT.s xmo_ldR ?_
  refine xm_moT.s xmo_getR ?_
  refine xm_moT.s xmo_ldI ?_
  refine xm_moT.s xmo_zald ?_
  refine xm_moT.s xmo_if ?_
  refine xm_moT.s xmo_ldR ?_
  refine xm_moT.s xmo_getR ?_
  refine xm_moT.s xmo_ldI ?_
  refine xm_moT.s xmo_lift ?_
  refine xm_moT.s xmo_zast ?_
  refine xm_moT.s xmo_ldR ?_
  refine xm_moT.s xmo_getR ?_
  refine xm_moT.s xmo_ldI ?_
  refine xm_moT.s xmo_lift ?_
  refine xm_moT.s xmo_zast ?_
  refine xm_moT.s xmo_ldR ?_
  refine xm_moT.s xmo_getR ?_
  refine xm_moT.s xmo_lift ?_
  refine xm_moT.s xmo_ldI ?_
  refine xm_moT.s xmo_lift ?_
  refine xm_moT.s xmo_lift ?_
  refine xm_moT.s xmo_lift ?_
  refine xm_moT.s xmo_lift ?_
  refine xm_moT.s xmo_iast ?_
  refine xm_moT.s xmo_ldR ?_
  refine xm_moT.s xmo_getR ?_
  refine xm_moT.s xmo_lift ?_
  refine xm_moT.s xmo_ldI ?_
  refine xm_moT.s xmo_lift ?_
  refine xm_moT.s xmo_lift ?_
  refine xm_moT.s xmo_lift ?_
  refine xm_moT.s xmo_lift ?_
  refine xm_moT.s xmo_iast ?_
  refine xm_moT.s xmo_ldR ?_
  refine xm_moT.s xmo_getR ?_
  refine xm_moT.s xmo_lift ?_
  refine xm_moT.s xmo_ldI ?_
  refine xm_moT.s xmo_lift ?_
  refine xm_moT.s xmo_lift ?_
  refine xm_moT.s xmo_lift ?_
  refine xm_moT.s xmo_lift ?_
  refine xm_moT.s xmo_iast ?_
  refine xm_moT.s xmo_ldR ?_
  refine xm_moT.s xmo_getR ?_
  refine xm_moT.s xmo_lift ?_
  refine xm_moT.s xmo_ldI ?_
  refine xm_moT.s xmo_lift ?_
  refine xm_moT.s xmo_ldI ?_
  refine xm_moT.s xmo_iast ?_
  refine xm_moT.s xmo_ldR ?_
  refine xm_moT.s xmo_getR ?_
  refine xm_moT.s xmo_lift ?_
  refine xm_moT.s xmo_ldI ?_
  refine xm_moT.s xmo_lift ?_
  refine xm_moT.s xmo_lift ?_
  refine xm_moT.s xmo_lift ?_
  refine xm_moT.s xmo_ldI ?_
  refine xm_moT.s xmo_iast ?_
  refine xm_moT.s xmo_ldR ?_
  refine xm_moT.s xmo_getR ?_
  refine xm_moT.s xmo_lift ?_
  refine xm_moT.s xmo_ldI ?_
  refine xm_moT.s xmo_lift ?_
  refine xm_moT.s xmo_lift ?_
  refine xm_moT.s xmo_lift ?_
  refine xm_moT.s xmo_ldI ?_
  refine xm_moT.s xmo_iast ?_
  refine xm_moT.s xmo_ldR ?_
  refine xm_moT.s xmo_ldI ?_
  refine xm_moT.c ?_
  refine xm_moT.s xmo_lift ?_
  refine xm_moT.s xmo_stI ?_
  refine xm_moT.s xmo_ldI ?_
  refine xm_moT.s xmo_lift ?_
  refine xm_moT.s xmo_icmp ?_
  refine xm_moT.s xmo_ldI ?_
  refine xm_moT.s xmo_ldI ?_
  refine xm_moT.s xmo_icmp ?_
  refine xm_moT.s xmo_ldR ?_
  refine xm_moT.s xmo_getR ?_
  refine xm_moT.s xmo_ldI ?_
  refine xm_moT.s xmo_zald ?_
  refine xm_moT.s xmo_if ?_
  refine xm_moT.s xmo_ldR ?_
  refine xm_moT.s xmo_getR ?_
  refine xm_moT.s xmo_ldI ?_
  refine xm_moT.s xmo_ldI ?_
  refine xm_moT.c ?_
  refine xm_moT.s xmo_lift ?_
  refine xm_moT.s xmo_last ?_
  refine xm_moT.s xmo_ldR ?_
  refine xm_moT.s xmo_getR ?_
  refine xm_moT.s xmo_ldI ?_
  refine xm_moT.s xmo_ldI ?_
  refine xm_moT.c ?_
  refine xm_moT.s xmo_lift ?_
  refine xm_moT.s xmo_iast ?_
  refine xm_moT.s xmo_ldR ?_
  refine xm_moT.s xmo_ldI ?_
  refine xm_moT.s xmo_ldI ?_
  refine xm_moT.c ?_
  refine xm_moT.s xmo_inc ?_
  refine xm_moT.s xmo_goto ?_
  refine xm_moT.c ?_
  trivial
theorem xmt_X5_move : xm_moT xt_X5_move := by
  unfold xt_X5_move
  refine xm_moT.s xmo_lift ?_
  refine xm_moT.s xmo_stI ?_
  refine xm_moT.s xmo_ldI ?_
  refine xm_moT.s xmo_lift ?_
  refine xm_moT.s xmo_icmp ?_
  refine xm_moT.s xmo_ldR ?_
  refine xm_moT.s xmo_getR ?_
  refine xm_moT.s xmo_ldI ?_
  refine xm_moT.s xmo_zald ?_
  refine xm_moT.s xmo_if ?_
  refine xm_moT.s xmo_ldR ?_
  refine xm_moT.s xmo_getR ?_
  refine xm_moT.s xmo_lift ?_
  refine xm_moT.s xmo_ldI ?_
  refine xm_moT.s xmo_lift ?_
  refine xm_moT.s xmo_ldR ?_
  refine xm_moT.s xmo_getR ?_
  refine xm_moT.s xmo_lift ?_
  refine xm_moT.s xmo_ldI ?_
  refine xm_moT.s xmo_lift ?_
  refine xm_moT.s xmo_iald ?_
  refine xm_moT.s xmo_ldR ?_
  refine xm_moT.s xmo_getR ?_
  refine xm_moT.s xmo_lift ?_
  refine xm_moT.s xmo_ldI ?_
  refine xm_moT.s xmo_lift ?_
  refine xm_moT.s xmo_lift ?_
  refine xm_moT.s xmo_lift ?_
  refine xm_moT.s xmo_iald ?_
  refine xm_moT.s xmo_lift ?_
  refine xm_moT.s xmo_lift ?_
  refine xm_moT.c ?_
  refine xm_moT.s xmo_iast ?_
  refine xm_moT.s xmo_ldR ?_
  refine xm_moT.s xmo_getR ?_
  refine xm_moT.s xmo_lift ?_
  refine xm_moT.s xmo_ldI ?_
  refine xm_moT.s xmo_lift ?_
  refine xm_moT.s xmo_lift ?_
  refine xm_moT.s xmo_lift ?_
  refine xm_moT.s xmo_ldR ?_
  refine xm_moT.s xmo_getR ?_
  refine xm_moT.s xmo_lift ?_
  refine xm_moT.s xmo_ldI ?_
  refine xm_moT.s xmo_lift ?_
  refine xm_moT.s xmo_lift ?_
  refine xm_moT.s xmo_lift ?_
  refine xm_moT.s xmo_iald ?_
  refine xm_moT.s xmo_ldR ?_
  refine xm_moT.s xmo_getR ?_
  refine xm_moT.s xmo_lift ?_
  refine xm_moT.s xmo_ldI ?_
  refine xm_moT.s xmo_lift ?_
  refine xm_moT.s xmo_lift ?_
  refine xm_moT.s xmo_lift ?_
  refine xm_moT.s xmo_iald ?_
  refine xm_moT.s xmo_lift ?_
  refine xm_moT.s xmo_lift ?_
  refine xm_moT.c ?_
  refine xm_moT.s xmo_iast ?_
  refine xm_moT.s xmo_ldR ?_
  refine xm_moT.s xmo_getR ?_
  refine xm_moT.s xmo_lift ?_
  refine xm_moT.s xmo_ldI ?_
  refine xm_moT.s xmo_lift ?_
  refine xm_moT.s xmo_lift ?_
  refine xm_moT.s xmo_lift ?_
  refine xm_moT.s xmo_ldR ?_
  refine xm_moT.s xmo_getR ?_
  refine xm_moT.s xmo_lift ?_
  refine xm_moT.s xmo_ldI ?_
  refine xm_moT.s xmo_lift ?_
  refine xm_moT.s xmo_lift ?_
  refine xm_moT.s xmo_lift ?_
  refine xm_moT.s xmo_iald ?_
  refine xm_moT.s xmo_ldR ?_
  refine xm_moT.s xmo_getR ?_
  refine xm_moT.s xmo_lift ?_
  refine xm_moT.s xmo_ldI ?_
  refine xm_moT.s xmo_lift ?_
  refine xm_moT.s xmo_lift ?_
  refine xm_moT.s xmo_lift ?_
  refine xm_moT.s xmo_iald ?_
  refine xm_moT.s xmo_lift ?_
  refine xm_moT.s xmo_lift ?_
  refine xm_moT.c ?_
  refine xm_moT.s xmo_iast ?_
  refine xm_moT.s xmo_inc ?_
  refine xm_moT.s xmo_goto ?_
  refine xm_moT.s xmo_lift ?_
  refine xm_moT.s xmo_stI ?_
  refine xm_moT.s xmo_ldI ?_
  refine xm_moT.s xmo_lift ?_
  refine xm_moT.s xmo_icmp ?_
  refine xm_moT.s xmo_ldI ?_
  refine xm_moT.s xmo_lift ?_
  refine xm_moT.s xmo_lift ?_
  refine xm_moT.s xmo_stI ?_
  refine xm_moT.s xmo_ldI ?_
  refine xm_moT.s xmo_lift ?_
  refine xm_moT.s xmo_icmp ?_
  refine xm_moT.s xmo_ldR ?_
  refine xm_moT.s xmo_getR ?_
  refine xm_moT.s xmo_ldI ?_
  refine xm_moT.s xmo_zald ?_
  refine xm_moT.s xmo_if ?_
  refine xm_moT.s xmo_ldR ?_
  refine xm_moT.s xmo_getR ?_
  refine xm_moT.s xmo_ldI ?_
  refine xm_moT.s xmo_zald ?_
  refine xm_moT.s xmo_if ?_
  refine xm_moT.s xmo_ldR ?_
  refine xm_moT.s xmo_ldI ?_
  refine xm_moT.s xmo_ldI ?_
  refine xm_moT.c ?_
  refine xm_moT.s xmo_inc ?_
  refine xm_moT.s xmo_goto ?_
  refine xm_moT.s xmo_inc ?_
  refine xm_moT.s xmo_goto ?_
  refine xm_moT.c ?_
  trivial
theorem xmt_X5_obey : xm_moT xt_X5_obey := by
  unfold xt_X5_obey
  refine xm_moT.s xmo_lift ?_
  refine xm_moT.s xmo_stI ?_
  refine xm_moT.s xmo_lift ?_
  refine xm_moT.s xmo_stI ?_
  refine xm_moT.s xmo_lift ?_
  refine xm_moT.s xmo_stI ?_
  refine xm_moT.s xmo_ldI ?_
  refine xm_moT.s xmo_lift ?_
  refine xm_moT.s xmo_icmp ?_
  refine xm_moT.s xmo_ldI ?_
  refine xm_moT.s xmo_ldI ?_
  refine xm_moT.s xmo_icmp ?_
  refine xm_moT.s xmo_lift ?_
  refine xm_moT.s xmo_goto ?_
  refine xm_moT.s xmo_ldI ?_
  refine xm_moT.s xmo_ldI ?_
  refine xm_moT.c ?_
  refine xm_moT.s xmo_stI ?_
  refine xm_moT.s xmo_ldI ?_
  refine xm_moT.s xmo_ldI ?_
  refine xm_moT.s xmo_icmp ?_
  refine xm_moT.s xmo_ldR ?_
  refine xm_moT.s xmo_getR ?_
  refine xm_moT.s xmo_ldI ?_
  refine xm_moT.s xmo_iald ?_
  refine xm_moT.s xmo_if ?_
  refine xm_moT.s xmo_ldR ?_
  refine xm_moT.s xmo_getR ?_
  refine xm_moT.s xmo_ldI ?_
  refine xm_moT.s xmo_iald ?_
  refine xm_moT.s xmo_ldR ?_
  refine xm_moT.s xmo_getR ?_
  refine xm_moT.s xmo_lift ?_
  refine xm_moT.s xmo_iald ?_
  refine xm_moT.s xmo_icmp ?_
  refine xm_moT.s xmo_ldI ?_
  refine xm_moT.s xmo_ldI ?_
  refine xm_moT.s xmo_icmp ?_
  refine xm_moT.s xmo_lift ?_
  refine xm_moT.s xmo_goto ?_
  refine xm_moT.s xmo_lift ?_
  refine xm_moT.s xmo_ldR ?_
  refine xm_moT.s xmo_getR ?_
  refine xm_moT.s xmo_ldI ?_
  refine xm_moT.s xmo_iald ?_
  refine xm_moT.s xmo_lift ?_
  refine xm_moT.s xmo_icmp ?_
  refine xm_moT.s xmo_lift ?_
  refine xm_moT.s xmo_goto ?_
  refine xm_moT.s xmo_lift ?_
  refine xm_moT.s xmo_icmp ?_
  refine xm_moT.s xmo_lift ?_
  refine xm_moT.s xmo_goto ?_
  refine xm_moT.s xmo_lift ?_
  refine xm_moT.s xmo_stI ?_
  refine xm_moT.s xmo_ldI ?_
  refine xm_moT.s xmo_if ?_
  refine xm_moT.s xmo_ldR ?_
  refine xm_moT.s xmo_getR ?_
  refine xm_moT.s xmo_ldI ?_
  refine xm_moT.s xmo_iald ?_
  refine xm_moT.s xmo_ldI ?_
  refine xm_moT.s xmo_icmp ?_
  refine xm_moT.s xmo_ldR ?_
  refine xm_moT.s xmo_getR ?_
  refine xm_moT.s xmo_ldI ?_
  refine xm_moT.s xmo_iald ?_
  refine xm_moT.s xmo_goto ?_
  refine xm_moT.s xmo_ldI ?_
  refine xm_moT.s xmo_stI ?_
  refine xm_moT.s xmo_ldI ?_
  refine xm_moT.s xmo_if ?_
  refine xm_moT.s xmo_ldR ?_
  refine xm_moT.s xmo_getR ?_
  refine xm_moT.s xmo_ldI ?_
  refine xm_moT.s xmo_iald ?_
  refine xm_moT.s xmo_ldI ?_
  refine xm_moT.s xmo_icmp ?_
  refine xm_moT.s xmo_ldR ?_
  refine xm_moT.s xmo_getR ?_
  refine xm_moT.s xmo_ldI ?_
  refine xm_moT.s xmo_iald ?_
  refine xm_moT.s xmo_goto ?_
  refine xm_moT.s xmo_ldI ?_
  refine xm_moT.s xmo_stI ?_
  refine xm_moT.s xmo_inc ?_
  refine xm_moT.s xmo_goto ?_
  refine xm_moT.s xmo_ldR ?_
  refine xm_moT.s xmo_getR ?_
  refine xm_moT.s xmo_lift ?_
  refine xm_moT.s xmo_ldI ?_
  refine xm_moT.s xmo_lift ?_
  refine xm_moT.s xmo_lift ?_
  refine xm_moT.s xmo_lift ?_
  refine xm_moT.s xmo_iald ?_
  refine xm_moT.s xmo_stI ?_
  refine xm_moT.s xmo_ldR ?_
  refine xm_moT.s xmo_getR ?_
  refine xm_moT.s xmo_lift ?_
  refine xm_moT.s xmo_iald ?_
  refine xm_moT.s xmo_stI ?_
  refine xm_moT.s xmo_ldI ?_
  refine xm_moT.s xmo_if ?_
  refine xm_moT.s xmo_ldI ?_
  refine xm_moT.s xmo_if ?_
  refine xm_moT.s xmo_ldI ?_
  refine xm_moT.s xmo_if ?_
  refine xm_moT.s xmo_ldI ?_
  refine xm_moT.s xmo_ldI ?_
  refine xm_moT.s xmo_icmp ?_
  refine xm_moT.s xmo_ldI ?_
  refine xm_moT.s xmo_ldI ?_
  refine xm_moT.s xmo_lift ?_
  refine xm_moT.s xmo_goto ?_
  refine xm_moT.s xmo_lift ?_
  refine xm_moT.s xmo_goto ?_
  refine xm_moT.s xmo_ldI ?_
  refine xm_moT.s xmo_ldI ?_
  refine xm_moT.s xmo_lift ?_
  refine xm_moT.s xmo_icmp ?_
  refine xm_moT.s xmo_ldI ?_
  refine xm_moT.s xmo_ldI ?_
  refine xm_moT.s xmo_lift ?_
  refine xm_moT.s xmo_goto ?_
  refine xm_moT.s xmo_lift ?_
  refine xm_moT.s xmo_stI ?_
  refine xm_moT.s xmo_goto ?_
  refine xm_moT.s xmo_ldI ?_
  refine xm_moT.s xmo_if ?_
  refine xm_moT.s xmo_ldI ?_
  refine xm_moT.s xmo_lift ?_
  refine xm_moT.s xmo_ldI ?_
  refine xm_moT.s xmo_lift ?_
  refine xm_moT.s xmo_icmp ?_
  refine xm_moT.s xmo_ldI ?_
  refine xm_moT.s xmo_ldI ?_
  refine xm_moT.s xmo_lift ?_
  refine xm_moT.s xmo_lift ?_
  refine xm_moT.s xmo_ldI ?_
  refine xm_moT.s xmo_lift ?_
  refine xm_moT.s xmo_icmp ?_
  refine xm_moT.s xmo_ldI ?_
  refine xm_moT.s xmo_ldI ?_
  refine xm_moT.s xmo_lift ?_
  refine xm_moT.s xmo_goto ?_
  refine xm_moT.s xmo_lift ?_
  refine xm_moT.s xmo_ldI ?_
  refine xm_moT.s xmo_lift ?_
  refine xm_moT.s xmo_stI ?_
  refine xm_moT.s xmo_goto ?_
  refine xm_moT.s xmo_ldI ?_
  refine xm_moT.s xmo_if ?_
  refine xm_moT.s xmo_ldI ?_
  refine xm_moT.s xmo_lift ?_
  refine xm_moT.s xmo_ldI ?_
  refine xm_moT.s xmo_lift ?_
  refine xm_moT.s xmo_icmp ?_
  refine xm_moT.s xmo_ldI ?_
  refine xm_moT.s xmo_ldI ?_
  refine xm_moT.s xmo_lift ?_
  refine xm_moT.s xmo_lift ?_
  refine xm_moT.s xmo_ldI ?_
  refine xm_moT.s xmo_lift ?_
  refine xm_moT.s xmo_icmp ?_
  refine xm_moT.s xmo_ldI ?_
  refine xm_moT.s xmo_ldI ?_
  refine xm_moT.s xmo_lift ?_
  refine xm_moT.s xmo_goto ?_
  refine xm_moT.s xmo_lift ?_
  refine xm_moT.s xmo_ldI ?_
  refine xm_moT.s xmo_lift ?_
  refine xm_moT.s xmo_stI ?_
  refine xm_moT.s xmo_ldR ?_
  refine xm_moT.s xmo_getR ?_
  refine xm_moT.s xmo_lift ?_
  refine xm_moT.s xmo_ldI ?_
  refine xm_moT.s xmo_lift ?_
  refine xm_moT.s xmo_lift ?_
  refine xm_moT.s xmo_lift ?_
  refine xm_moT.s xmo_ldI ?_
  refine xm_moT.s xmo_iast ?_
  refine xm_moT.c ?_
  trivial
theorem xmt_X5_step : xm_moT xt_X5_step := by
  unfold xt_X5_step
  refine xm_moT.s xmo_ldR ?_
  refine xm_moT.s xmo_ldI ?_
  refine xm_moT.s xmo_if ?_
  refine xm_moT.s xmo_ldI ?_
  refine xm_moT.s xmo_lift ?_
  refine xm_moT.s xmo_icmp ?_
  refine xm_moT.s xmo_lift ?_
  refine xm_moT.s xmo_goto ?_
  refine xm_moT.s xmo_lift ?_
  refine xm_moT.s xmo_putI ?_
  refine xm_moT.s xmo_ldR ?_
  refine xm_moT.s xmo_getI ?_
  refine xm_moT.s xmo_if ?_
  refine xm_moT.s xmo_lift ?_
  refine xm_moT.c ?_
  refine xm_moT.s xmo_lift ?_
  refine xm_moT.s xmo_stI ?_
  refine xm_moT.s xmo_ldI ?_
  refine xm_moT.s xmo_ldI ?_
  refine xm_moT.s xmo_icmp ?_
  refine xm_moT.s xmo_ldR ?_
  refine xm_moT.c ?_
  refine xm_moT.s xmo_lift ?_
  refine xm_moT.s xmo_stI ?_
  refine xm_moT.s xmo_ldI ?_
  refine xm_moT.s xmo_lift ?_
  refine xm_moT.s xmo_icmp ?_
  refine xm_moT.s xmo_ldR ?_
  refine xm_moT.s xmo_getR ?_
  refine xm_moT.s xmo_ldI ?_
  refine xm_moT.s xmo_zald ?_
  refine xm_moT.s xmo_if ?_
  refine xm_moT.s xmo_ldR ?_
  refine xm_moT.s xmo_getR ?_
  refine xm_moT.s xmo_ldI ?_
  refine xm_moT.s xmo_zald ?_
  refine xm_moT.s xmo_if ?_
  refine xm_moT.s xmo_ldR ?_
  refine xm_moT.s xmo_ldI ?_
  refine xm_moT.c ?_
  refine xm_moT.s xmo_inc ?_
  refine xm_moT.s xmo_goto ?_
  refine xm_moT.s xmo_lift ?_
  refine xm_moT.s xmo_stI ?_
  refine xm_moT.s xmo_ldI ?_
  refine xm_moT.s xmo_lift ?_
  refine xm_moT.s xmo_icmp ?_
  refine xm_moT.s xmo_ldI ?_
  refine xm_moT.s xmo_lift ?_
  refine xm_moT.s xmo_lift ?_
  refine xm_moT.s xmo_stI ?_
  refine xm_moT.s xmo_ldI ?_
  refine xm_moT.s xmo_lift ?_
  refine xm_moT.s xmo_icmp ?_
  refine xm_moT.s xmo_ldR ?_
  refine xm_moT.s xmo_getR ?_
  refine xm_moT.s xmo_ldI ?_
  refine xm_moT.s xmo_zald ?_
  refine xm_moT.s xmo_if ?_
  refine xm_moT.s xmo_ldR ?_
  refine xm_moT.s xmo_getR ?_
  refine xm_moT.s xmo_ldI ?_
  refine xm_moT.s xmo_zald ?_
  refine xm_moT.s xmo_if ?_
  refine xm_moT.s xmo_ldR ?_
  refine xm_moT.s xmo_ldI ?_
  refine xm_moT.s xmo_ldI ?_
  refine xm_moT.c ?_
  refine xm_moT.s xmo_ldR ?_
  refine xm_moT.s xmo_lift ?_
  refine xm_moT.s xmo_ldI ?_
  refine xm_moT.s xmo_lift ?_
  refine xm_moT.s xmo_ldI ?_
  refine xm_moT.s xmo_lift ?_
  refine xm_moT.c ?_
  refine xm_moT.s xmo_inc ?_
  refine xm_moT.s xmo_goto ?_
  refine xm_moT.s xmo_inc ?_
  refine xm_moT.s xmo_goto ?_
  refine xm_moT.s xmo_ldR ?_
  refine xm_moT.s xmo_getR ?_
  refine xm_moT.s xmo_lift ?_
  refine xm_moT.s xmo_lift ?_
  refine xm_moT.s xmo_iald ?_
  refine xm_moT.s xmo_lift ?_
  refine xm_moT.s xmo_lift ?_
  refine xm_moT.s xmo_iast ?_
  refine xm_moT.s xmo_inc ?_
  refine xm_moT.s xmo_goto ?_
  refine xm_moT.s xmo_lift ?_
  refine xm_moT.s xmo_stI ?_
  refine xm_moT.s xmo_lift ?_
  refine xm_moT.s xmo_stI ?_
  refine xm_moT.s xmo_ldI ?_
  refine xm_moT.s xmo_lift ?_
  refine xm_moT.s xmo_icmp ?_
  refine xm_moT.s xmo_ldR ?_
  refine xm_moT.s xmo_getR ?_
  refine xm_moT.s xmo_ldI ?_
  refine xm_moT.s xmo_iald ?_
  refine xm_moT.s xmo_if ?_
  refine xm_moT.s xmo_ldI ?_
  refine xm_moT.s xmo_lift ?_
  refine xm_moT.s xmo_lift ?_
  refine xm_moT.s xmo_goto ?_
  refine xm_moT.s xmo_ldI ?_
  refine xm_moT.s xmo_stI ?_
  refine xm_moT.s xmo_inc ?_
  refine xm_moT.s xmo_goto ?_
  refine xm_moT.s xmo_ldI ?_
  refine xm_moT.c ?_
  trivial
set_option linter.unusedVariables false in
def xg_endAll (i : Nat) : Nat → Nat → xh_I → xh_L → xh_I × xh_L
  | 0, j, I, L => (I, L)
  | n + 1, j, I, L => if (nI j) = (nI i) then (xg_endAll i n (j + 1) I L) else (xg_endAll i n (j + 1) (xm_up (xm_up (xm_up (xm_up I 11 (xh_p6 i j) 0 0) 12 (xh_p6 i j) 0 0) 13 (xh_p6 i j) 0 0) 14 (xh_p6 i j) 0 0) L)
set_option maxHeartbeats 4000000 in
set_option maxRecDepth 100000 in
theorem xl_endAll (d : Nat) (i : Nat) (hi : i < 6) {E : Nat → xm_S → Prop} (hE : xm_Ei E) : ∀ (n j : Nat), j + n = 6 → ∀ (I : xh_I) (L : xh_L) , xK (d + 1) xt_X5_endAll 53 ([(0, xm_r 5 0), (1, xm_i (nI i)), (2, xm_i 6)], [], xh_M (xg_endAll i n j I L ).1 (xg_endAll i n j I L ).2, 0, 0) E → xK (d + 1) xt_X5_endAll 2 ([(0, xm_r 5 0), (1, xm_i (nI i)), (2, xm_i (nI j))], [], xh_M I L, 0, 0) E := by
  have hmo := xmt_X5_endAll
  intro n
  induction n with
  | zero =>
    intro j hj I L  hk
    have hjN : j = 6 := by omega
    subst hjN
    refine xK.run (q := (5, ([(0, xm_r 5 0), (1, xm_i (nI i)), (2, xm_i (nI 6))], [xm_i 6, xm_i (nI 6)], xh_M I L, 0, 0))) 2 rfl ?_
    exact xK.icmp rfl (fun _ => hk) (fun h9 => absurd (by decide) h9)
  | succ n ih =>
    intro j hj I L  hk
    have hj8 : j < 6 := by omega
    have hj9 : ¬ (6 : Int32) ≤ nI j := nI_ge (b := 6) hj8 (by decide)
    refine xK.run (q := (5, [(0, xm_r 5 0), (1, xm_i (nI i)), (2, xm_i (nI j))], [xm_i 6, xm_i (nI j)], xh_M I L, 0, 0)) 2 rfl ?_
    refine xK.icmp rfl (fun h9 => absurd h9 hj9) (fun _ => ?_)
    refine xK.run (q := (10, [(0, xm_r 5 0), (1, xm_i (nI i)), (2, xm_i (nI j))], [xm_i (nI i), xm_i (nI j)], xh_M I L, 0, 0)) 2 rfl ?_
    refine xK.icmp rfl (fun (h1 : (nI j) = (nI i)) => ?_) (fun (h1 : ¬ (nI j) = (nI i)) => ?_)
    · skip
      refine xK.run (q := (2, [(0, xm_r 5 0), (1, xm_i (nI i)), (2, xm_i ((nI j) + 1))], [], xh_M I L, 0, 0)) 2 rfl ?_
      refine xK.forget (a := [(0, xm_r 5 0), (1, xm_i (nI i)), (2, xm_i ((nI j) + 1))]) hmo hE (of_decide_eq_true rfl) ⟨rfl, rfl, rfl, trivial⟩ ?_
      rw [nI_1 j]
      refine ih (j + 1) (by omega) I L ?_
      rw [show xg_endAll i (n + 1) j I L  = xg_endAll i n (j + 1) I L from by rw [xg_endAll]; rw [if_pos h1]] at hk
      exact hk
    · skip
      refine xK.run (q := (15, [(0, xm_r 5 0), (1, xm_i (nI i)), (2, xm_i (nI j))], [xm_i (nI j), xm_i (nI i)], xh_M I L, 0, 0)) 2 rfl ?_
      refine xK.call [xm_i (nI i), xm_i (nI j)] (xd_X5_pairOf d I L (nI i) (nI j)) rfl rfl rfl (Or.inl rfl) (Nat.le_of_ble_eq_true rfl) ?_
      refine xK.run (q := (25, [(0, xm_r 5 0), (1, xm_i (nI i)), (2, xm_i (nI j)), (3, xm_i (xf_X5_pairOf (nI i) (nI j)))], [xm_i 0, xm_i (xf_X5_pairOf (nI i) (nI j)), xm_r 11 0], xh_M I L, 0, 0)) 5 rfl ?_
      refine xK.iast' rfl rfl (xh_p6_ix hi hj8) ?_
      refine xK.run (q := (32, [(0, xm_r 5 0), (1, xm_i (nI i)), (2, xm_i (nI j)), (3, xm_i (xf_X5_pairOf (nI i) (nI j)))], [xm_i 0, xm_i (xf_X5_pairOf (nI i) (nI j)), xm_r 12 0], xh_M (xm_up I 11 (xh_p6 i j) 0 0) L, 0, 0)) 4 rfl ?_
      refine xK.iast' rfl rfl (xh_p6_ix hi hj8) ?_
      refine xK.run (q := (39, [(0, xm_r 5 0), (1, xm_i (nI i)), (2, xm_i (nI j)), (3, xm_i (xf_X5_pairOf (nI i) (nI j)))], [xm_i 0, xm_i (xf_X5_pairOf (nI i) (nI j)), xm_r 13 0], xh_M (xm_up (xm_up I 11 (xh_p6 i j) 0 0) 12 (xh_p6 i j) 0 0) L, 0, 0)) 4 rfl ?_
      refine xK.iast' rfl rfl (xh_p6_ix hi hj8) ?_
      refine xK.run (q := (46, [(0, xm_r 5 0), (1, xm_i (nI i)), (2, xm_i (nI j)), (3, xm_i (xf_X5_pairOf (nI i) (nI j)))], [xm_i 0, xm_i (xf_X5_pairOf (nI i) (nI j)), xm_r 14 0], xh_M (xm_up (xm_up (xm_up I 11 (xh_p6 i j) 0 0) 12 (xh_p6 i j) 0 0) 13 (xh_p6 i j) 0 0) L, 0, 0)) 4 rfl ?_
      refine xK.zast' rfl rfl (Or.inl rfl) (xh_p6_ix hi hj8) ?_
      refine xK.run (q := (2, [(0, xm_r 5 0), (1, xm_i (nI i)), (2, xm_i ((nI j) + 1)), (3, xm_i (xf_X5_pairOf (nI i) (nI j)))], [], xh_M (xm_up (xm_up (xm_up (xm_up I 11 (xh_p6 i j) 0 0) 12 (xh_p6 i j) 0 0) 13 (xh_p6 i j) 0 0) 14 (xh_p6 i j) 0 0) L, 0, 0)) 2 rfl ?_
      refine xK.forget (a := [(0, xm_r 5 0), (1, xm_i (nI i)), (2, xm_i ((nI j) + 1))]) hmo hE (of_decide_eq_true rfl) ⟨rfl, rfl, rfl, trivial⟩ ?_
      rw [nI_1 j]
      refine ih (j + 1) (by omega) (xm_up (xm_up (xm_up (xm_up I 11 (xh_p6 i j) 0 0) 12 (xh_p6 i j) 0 0) 13 (xh_p6 i j) 0 0) 14 (xh_p6 i j) 0 0) L ?_
      rw [show xg_endAll i (n + 1) j I L  = xg_endAll i n (j + 1) (xm_up (xm_up (xm_up (xm_up I 11 (xh_p6 i j) 0 0) 12 (xh_p6 i j) 0 0) 13 (xh_p6 i j) 0 0) 14 (xh_p6 i j) 0 0) L from by rw [xg_endAll]; rw [if_neg h1]] at hk
      exact hk
def xwI_endAll (i : Nat) (I : xh_I) (L : xh_L)  : xh_I := (xg_endAll i 6 0 I L ).1
def xwL_endAll (i : Nat) (I : xh_I) (L : xh_L)  : xh_L := (xg_endAll i 6 0 I L ).2
theorem xl_endAll_w (d : Nat) (i : Nat) (hi : i < 6) {E : Nat → xm_S → Prop} (hE : xm_Ei E) (I : xh_I) (L : xh_L)   (hk : xK (d + 1) xt_X5_endAll 53 ([(0, xm_r 5 0), (1, xm_i (nI i)), (2, xm_i 6)], [], xh_M (xwI_endAll i I L ) (xwL_endAll i I L ), 0, 0) E) : xK (d + 1) xt_X5_endAll 2 ([(0, xm_r 5 0), (1, xm_i (nI i)), (2, xm_i 0)], [], xh_M I L, 0, 0) E :=
  xl_endAll d i hi hE 6 0 rfl  I L   hk
set_option linter.unusedVariables false in
def xfI_X5_endAll (I : xh_I) (L : xh_L) (i : Nat) : xh_I := (xwI_endAll i I L)
set_option linter.unusedVariables false in
def xfL_X5_endAll (I : xh_I) (L : xh_L) (i : Nat) : xh_L := (xwL_endAll i I L)
set_option maxHeartbeats 4000000 in
set_option maxRecDepth 100000 in
theorem xd_X5_endAll (d : Nat) (I : xh_I) (L : xh_L) (i : Nat) (hi : i < 6) : xm_Do xp_pg (d + 2) 78 [xm_r 5 0, xm_i (nI i)] (xh_M I L) none (xh_M (xfI_X5_endAll I L i) (xfL_X5_endAll I L i)) 0 0 := by
  refine xK.of (Nat.le_of_ble_eq_true rfl) rfl ?_
  refine xK.run (q := (2, [(0, xm_r 5 0), (1, xm_i (nI i)), (2, xm_i 0)], [], xh_M I L, 0, 0)) 2 rfl ?_
  refine xl_endAll_w d i hi xm_Ei_E I L   ?_
  exact xK.ret rfl ⟨rfl, rfl⟩
set_option linter.unusedVariables false in
def xg_moves  : Nat → Nat → xh_I → xh_L → xh_I × xh_L
  | 0, j, I, L => (I, L)
  | n + 1, j, I, L => if (I 8 j 0) = 0 then (xg_moves  n (j + 1) I L) else (xg_moves  n (j + 1) (xm_up (xm_up (xm_up I 10 (6 * j) 0 (xf_X5_bounded ((I 10 (6 * j) 0) + (I 10 (6 * j + 3) 0)) 200000)) 10 (6 * j + 1) 0 (xf_X5_bounded (((xm_up I 10 (6 * j) 0 (xf_X5_bounded ((I 10 (6 * j) 0) + (I 10 (6 * j + 3) 0)) 200000)) 10 (6 * j + 1) 0) + ((xm_up I 10 (6 * j) 0 (xf_X5_bounded ((I 10 (6 * j) 0) + (I 10 (6 * j + 3) 0)) 200000)) 10 (6 * j + 4) 0)) 200000)) 10 (6 * j + 2) 0 (xf_X5_bounded (((xm_up (xm_up I 10 (6 * j) 0 (xf_X5_bounded ((I 10 (6 * j) 0) + (I 10 (6 * j + 3) 0)) 200000)) 10 (6 * j + 1) 0 (xf_X5_bounded (((xm_up I 10 (6 * j) 0 (xf_X5_bounded ((I 10 (6 * j) 0) + (I 10 (6 * j + 3) 0)) 200000)) 10 (6 * j + 1) 0) + ((xm_up I 10 (6 * j) 0 (xf_X5_bounded ((I 10 (6 * j) 0) + (I 10 (6 * j + 3) 0)) 200000)) 10 (6 * j + 4) 0)) 200000)) 10 (6 * j + 2) 0) + ((xm_up (xm_up I 10 (6 * j) 0 (xf_X5_bounded ((I 10 (6 * j) 0) + (I 10 (6 * j + 3) 0)) 200000)) 10 (6 * j + 1) 0 (xf_X5_bounded (((xm_up I 10 (6 * j) 0 (xf_X5_bounded ((I 10 (6 * j) 0) + (I 10 (6 * j + 3) 0)) 200000)) 10 (6 * j + 1) 0) + ((xm_up I 10 (6 * j) 0 (xf_X5_bounded ((I 10 (6 * j) 0) + (I 10 (6 * j + 3) 0)) 200000)) 10 (6 * j + 4) 0)) 200000)) 10 (6 * j + 5) 0)) 20000)) L)
set_option maxHeartbeats 4000000 in
set_option maxRecDepth 100000 in
theorem xl_moves (d : Nat)   {E : Nat → xm_S → Prop} (hE : xm_Ei E) : ∀ (n j : Nat), j + n = 6 → ∀ (I : xh_I) (L : xh_L) , xK (d + 1) xt_X5_move 137 ([(0, xm_r 5 0), (1, xm_i 6)], [], xh_M (xg_moves  n j I L ).1 (xg_moves  n j I L ).2, 0, 0) E → xK (d + 1) xt_X5_move 2 ([(0, xm_r 5 0), (1, xm_i (nI j))], [], xh_M I L, 0, 0) E := by
  have hmo := xmt_X5_move
  intro n
  induction n with
  | zero =>
    intro j hj I L  hk
    have hjN : j = 6 := by omega
    subst hjN
    refine xK.run (q := (5, ([(0, xm_r 5 0), (1, xm_i (nI 6))], [xm_i 6, xm_i (nI 6)], xh_M I L, 0, 0))) 2 rfl ?_
    exact xK.icmp rfl (fun _ => hk) (fun h9 => absurd (by decide) h9)
  | succ n ih =>
    intro j hj I L  hk
    have hj8 : j < 6 := by omega
    have hj9 : ¬ (6 : Int32) ≤ nI j := nI_ge (b := 6) hj8 (by decide)
    refine xK.run (q := (5, [(0, xm_r 5 0), (1, xm_i (nI j))], [xm_i 6, xm_i (nI j)], xh_M I L, 0, 0)) 2 rfl ?_
    refine xK.icmp rfl (fun h9 => absurd h9 hj9) (fun _ => ?_)
    refine xK.run (q := (13, [(0, xm_r 5 0), (1, xm_i (nI j))], [xm_i (nI j), xm_r 8 0], xh_M I L, 0, 0)) 3 rfl ?_
    refine xK.zald' rfl rfl (xh_ix_nI (N := 6) hj8 (by decide)) ?_
    refine xK.ifI rfl (fun (h1 : (I 8 j 0) = 0) => ?_) (fun (h1 : ¬ (I 8 j 0) = 0) => ?_)
    · skip
      refine xK.run (q := (2, [(0, xm_r 5 0), (1, xm_i ((nI j) + 1))], [], xh_M I L, 0, 0)) 2 rfl ?_
      refine xK.forget (a := [(0, xm_r 5 0), (1, xm_i ((nI j) + 1))]) hmo hE (of_decide_eq_true rfl) ⟨rfl, rfl, trivial⟩ ?_
      rw [nI_1 j]
      refine ih (j + 1) (by omega) I L ?_
      rw [show xg_moves  (n + 1) j I L  = xg_moves  n (j + 1) I L from by rw [xg_moves]; rw [if_pos h1]] at hk
      exact hk
    · skip
      refine xK.run (q := (33, [(0, xm_r 5 0), (1, xm_i (nI j))], [xm_i (6 * (nI j)), xm_r 10 0, xm_i (6 * (nI j)), xm_r 10 0], xh_M I L, 0, 0)) 10 rfl ?_
      refine xK.iald' rfl rfl (xh_ix60 hj8) ?_
      refine xK.run (q := (44, [(0, xm_r 5 0), (1, xm_i (nI j))], [xm_i ((6 * (nI j)) + 3), xm_r 10 0, xm_i (I 10 (6 * j) 0), xm_i (6 * (nI j)), xm_r 10 0], xh_M I L, 0, 0)) 7 rfl ?_
      refine xK.iald' rfl rfl (xh_ix6 hj8 (c := 3) (by decide)) ?_
      refine xK.run (q := (48, [(0, xm_r 5 0), (1, xm_i (nI j))], [xm_i 200000, xm_i ((I 10 (6 * j) 0) + (I 10 (6 * j + 3) 0)), xm_i (6 * (nI j)), xm_r 10 0], xh_M I L, 0, 0)) 2 rfl ?_
      refine xK.call [xm_i ((I 10 (6 * j) 0) + (I 10 (6 * j + 3) 0)), xm_i 200000] (xd_X5_bounded d I L ((I 10 (6 * j) 0) + (I 10 (6 * j + 3) 0)) 200000) rfl rfl rfl (Or.inl rfl) (Nat.le_of_ble_eq_true rfl) ?_
      refine xK.iast' rfl rfl (xh_ix60 hj8) ?_
      refine xK.run (q := (72, [(0, xm_r 5 0), (1, xm_i (nI j))], [xm_i ((6 * (nI j)) + 1), xm_r 10 0, xm_i ((6 * (nI j)) + 1), xm_r 10 0], xh_M (xm_up I 10 (6 * j) 0 (xf_X5_bounded ((I 10 (6 * j) 0) + (I 10 (6 * j + 3) 0)) 200000)) L, 0, 0)) 14 rfl ?_
      refine xK.iald' rfl rfl (xh_ix6 hj8 (c := 1) (by decide)) ?_
      refine xK.run (q := (83, [(0, xm_r 5 0), (1, xm_i (nI j))], [xm_i ((6 * (nI j)) + 4), xm_r 10 0, xm_i ((xm_up I 10 (6 * j) 0 (xf_X5_bounded ((I 10 (6 * j) 0) + (I 10 (6 * j + 3) 0)) 200000)) 10 (6 * j + 1) 0), xm_i ((6 * (nI j)) + 1), xm_r 10 0], xh_M (xm_up I 10 (6 * j) 0 (xf_X5_bounded ((I 10 (6 * j) 0) + (I 10 (6 * j + 3) 0)) 200000)) L, 0, 0)) 7 rfl ?_
      refine xK.iald' rfl rfl (xh_ix6 hj8 (c := 4) (by decide)) ?_
      refine xK.run (q := (87, [(0, xm_r 5 0), (1, xm_i (nI j))], [xm_i 200000, xm_i (((xm_up I 10 (6 * j) 0 (xf_X5_bounded ((I 10 (6 * j) 0) + (I 10 (6 * j + 3) 0)) 200000)) 10 (6 * j + 1) 0) + ((xm_up I 10 (6 * j) 0 (xf_X5_bounded ((I 10 (6 * j) 0) + (I 10 (6 * j + 3) 0)) 200000)) 10 (6 * j + 4) 0)), xm_i ((6 * (nI j)) + 1), xm_r 10 0], xh_M (xm_up I 10 (6 * j) 0 (xf_X5_bounded ((I 10 (6 * j) 0) + (I 10 (6 * j + 3) 0)) 200000)) L, 0, 0)) 2 rfl ?_
      refine xK.call [xm_i (((xm_up I 10 (6 * j) 0 (xf_X5_bounded ((I 10 (6 * j) 0) + (I 10 (6 * j + 3) 0)) 200000)) 10 (6 * j + 1) 0) + ((xm_up I 10 (6 * j) 0 (xf_X5_bounded ((I 10 (6 * j) 0) + (I 10 (6 * j + 3) 0)) 200000)) 10 (6 * j + 4) 0)), xm_i 200000] (xd_X5_bounded d (xm_up I 10 (6 * j) 0 (xf_X5_bounded ((I 10 (6 * j) 0) + (I 10 (6 * j + 3) 0)) 200000)) L (((xm_up I 10 (6 * j) 0 (xf_X5_bounded ((I 10 (6 * j) 0) + (I 10 (6 * j + 3) 0)) 200000)) 10 (6 * j + 1) 0) + ((xm_up I 10 (6 * j) 0 (xf_X5_bounded ((I 10 (6 * j) 0) + (I 10 (6 * j + 3) 0)) 200000)) 10 (6 * j + 4) 0)) 200000) rfl rfl rfl (Or.inl rfl) (Nat.le_of_ble_eq_true rfl) ?_
      refine xK.iast' rfl rfl (xh_ix6 hj8 (c := 1) (by decide)) ?_
      refine xK.run (q := (111, [(0, xm_r 5 0), (1, xm_i (nI j))], [xm_i ((6 * (nI j)) + 2), xm_r 10 0, xm_i ((6 * (nI j)) + 2), xm_r 10 0], xh_M (xm_up (xm_up I 10 (6 * j) 0 (xf_X5_bounded ((I 10 (6 * j) 0) + (I 10 (6 * j + 3) 0)) 200000)) 10 (6 * j + 1) 0 (xf_X5_bounded (((xm_up I 10 (6 * j) 0 (xf_X5_bounded ((I 10 (6 * j) 0) + (I 10 (6 * j + 3) 0)) 200000)) 10 (6 * j + 1) 0) + ((xm_up I 10 (6 * j) 0 (xf_X5_bounded ((I 10 (6 * j) 0) + (I 10 (6 * j + 3) 0)) 200000)) 10 (6 * j + 4) 0)) 200000)) L, 0, 0)) 14 rfl ?_
      refine xK.iald' rfl rfl (xh_ix6 hj8 (c := 2) (by decide)) ?_
      refine xK.run (q := (122, [(0, xm_r 5 0), (1, xm_i (nI j))], [xm_i ((6 * (nI j)) + 5), xm_r 10 0, xm_i ((xm_up (xm_up I 10 (6 * j) 0 (xf_X5_bounded ((I 10 (6 * j) 0) + (I 10 (6 * j + 3) 0)) 200000)) 10 (6 * j + 1) 0 (xf_X5_bounded (((xm_up I 10 (6 * j) 0 (xf_X5_bounded ((I 10 (6 * j) 0) + (I 10 (6 * j + 3) 0)) 200000)) 10 (6 * j + 1) 0) + ((xm_up I 10 (6 * j) 0 (xf_X5_bounded ((I 10 (6 * j) 0) + (I 10 (6 * j + 3) 0)) 200000)) 10 (6 * j + 4) 0)) 200000)) 10 (6 * j + 2) 0), xm_i ((6 * (nI j)) + 2), xm_r 10 0], xh_M (xm_up (xm_up I 10 (6 * j) 0 (xf_X5_bounded ((I 10 (6 * j) 0) + (I 10 (6 * j + 3) 0)) 200000)) 10 (6 * j + 1) 0 (xf_X5_bounded (((xm_up I 10 (6 * j) 0 (xf_X5_bounded ((I 10 (6 * j) 0) + (I 10 (6 * j + 3) 0)) 200000)) 10 (6 * j + 1) 0) + ((xm_up I 10 (6 * j) 0 (xf_X5_bounded ((I 10 (6 * j) 0) + (I 10 (6 * j + 3) 0)) 200000)) 10 (6 * j + 4) 0)) 200000)) L, 0, 0)) 7 rfl ?_
      refine xK.iald' rfl rfl (xh_ix6 hj8 (c := 5) (by decide)) ?_
      refine xK.run (q := (127, [(0, xm_r 5 0), (1, xm_i (nI j))], [xm_i 20000, xm_i (((xm_up (xm_up I 10 (6 * j) 0 (xf_X5_bounded ((I 10 (6 * j) 0) + (I 10 (6 * j + 3) 0)) 200000)) 10 (6 * j + 1) 0 (xf_X5_bounded (((xm_up I 10 (6 * j) 0 (xf_X5_bounded ((I 10 (6 * j) 0) + (I 10 (6 * j + 3) 0)) 200000)) 10 (6 * j + 1) 0) + ((xm_up I 10 (6 * j) 0 (xf_X5_bounded ((I 10 (6 * j) 0) + (I 10 (6 * j + 3) 0)) 200000)) 10 (6 * j + 4) 0)) 200000)) 10 (6 * j + 2) 0) + ((xm_up (xm_up I 10 (6 * j) 0 (xf_X5_bounded ((I 10 (6 * j) 0) + (I 10 (6 * j + 3) 0)) 200000)) 10 (6 * j + 1) 0 (xf_X5_bounded (((xm_up I 10 (6 * j) 0 (xf_X5_bounded ((I 10 (6 * j) 0) + (I 10 (6 * j + 3) 0)) 200000)) 10 (6 * j + 1) 0) + ((xm_up I 10 (6 * j) 0 (xf_X5_bounded ((I 10 (6 * j) 0) + (I 10 (6 * j + 3) 0)) 200000)) 10 (6 * j + 4) 0)) 200000)) 10 (6 * j + 5) 0)), xm_i ((6 * (nI j)) + 2), xm_r 10 0], xh_M (xm_up (xm_up I 10 (6 * j) 0 (xf_X5_bounded ((I 10 (6 * j) 0) + (I 10 (6 * j + 3) 0)) 200000)) 10 (6 * j + 1) 0 (xf_X5_bounded (((xm_up I 10 (6 * j) 0 (xf_X5_bounded ((I 10 (6 * j) 0) + (I 10 (6 * j + 3) 0)) 200000)) 10 (6 * j + 1) 0) + ((xm_up I 10 (6 * j) 0 (xf_X5_bounded ((I 10 (6 * j) 0) + (I 10 (6 * j + 3) 0)) 200000)) 10 (6 * j + 4) 0)) 200000)) L, 0, 0)) 2 rfl ?_
      refine xK.call [xm_i (((xm_up (xm_up I 10 (6 * j) 0 (xf_X5_bounded ((I 10 (6 * j) 0) + (I 10 (6 * j + 3) 0)) 200000)) 10 (6 * j + 1) 0 (xf_X5_bounded (((xm_up I 10 (6 * j) 0 (xf_X5_bounded ((I 10 (6 * j) 0) + (I 10 (6 * j + 3) 0)) 200000)) 10 (6 * j + 1) 0) + ((xm_up I 10 (6 * j) 0 (xf_X5_bounded ((I 10 (6 * j) 0) + (I 10 (6 * j + 3) 0)) 200000)) 10 (6 * j + 4) 0)) 200000)) 10 (6 * j + 2) 0) + ((xm_up (xm_up I 10 (6 * j) 0 (xf_X5_bounded ((I 10 (6 * j) 0) + (I 10 (6 * j + 3) 0)) 200000)) 10 (6 * j + 1) 0 (xf_X5_bounded (((xm_up I 10 (6 * j) 0 (xf_X5_bounded ((I 10 (6 * j) 0) + (I 10 (6 * j + 3) 0)) 200000)) 10 (6 * j + 1) 0) + ((xm_up I 10 (6 * j) 0 (xf_X5_bounded ((I 10 (6 * j) 0) + (I 10 (6 * j + 3) 0)) 200000)) 10 (6 * j + 4) 0)) 200000)) 10 (6 * j + 5) 0)), xm_i 20000] (xd_X5_bounded d (xm_up (xm_up I 10 (6 * j) 0 (xf_X5_bounded ((I 10 (6 * j) 0) + (I 10 (6 * j + 3) 0)) 200000)) 10 (6 * j + 1) 0 (xf_X5_bounded (((xm_up I 10 (6 * j) 0 (xf_X5_bounded ((I 10 (6 * j) 0) + (I 10 (6 * j + 3) 0)) 200000)) 10 (6 * j + 1) 0) + ((xm_up I 10 (6 * j) 0 (xf_X5_bounded ((I 10 (6 * j) 0) + (I 10 (6 * j + 3) 0)) 200000)) 10 (6 * j + 4) 0)) 200000)) L (((xm_up (xm_up I 10 (6 * j) 0 (xf_X5_bounded ((I 10 (6 * j) 0) + (I 10 (6 * j + 3) 0)) 200000)) 10 (6 * j + 1) 0 (xf_X5_bounded (((xm_up I 10 (6 * j) 0 (xf_X5_bounded ((I 10 (6 * j) 0) + (I 10 (6 * j + 3) 0)) 200000)) 10 (6 * j + 1) 0) + ((xm_up I 10 (6 * j) 0 (xf_X5_bounded ((I 10 (6 * j) 0) + (I 10 (6 * j + 3) 0)) 200000)) 10 (6 * j + 4) 0)) 200000)) 10 (6 * j + 2) 0) + ((xm_up (xm_up I 10 (6 * j) 0 (xf_X5_bounded ((I 10 (6 * j) 0) + (I 10 (6 * j + 3) 0)) 200000)) 10 (6 * j + 1) 0 (xf_X5_bounded (((xm_up I 10 (6 * j) 0 (xf_X5_bounded ((I 10 (6 * j) 0) + (I 10 (6 * j + 3) 0)) 200000)) 10 (6 * j + 1) 0) + ((xm_up I 10 (6 * j) 0 (xf_X5_bounded ((I 10 (6 * j) 0) + (I 10 (6 * j + 3) 0)) 200000)) 10 (6 * j + 4) 0)) 200000)) 10 (6 * j + 5) 0)) 20000) rfl rfl rfl (Or.inl rfl) (Nat.le_of_ble_eq_true rfl) ?_
      refine xK.iast' rfl rfl (xh_ix6 hj8 (c := 2) (by decide)) ?_
      refine xK.run (q := (2, [(0, xm_r 5 0), (1, xm_i ((nI j) + 1))], [], xh_M (xm_up (xm_up (xm_up I 10 (6 * j) 0 (xf_X5_bounded ((I 10 (6 * j) 0) + (I 10 (6 * j + 3) 0)) 200000)) 10 (6 * j + 1) 0 (xf_X5_bounded (((xm_up I 10 (6 * j) 0 (xf_X5_bounded ((I 10 (6 * j) 0) + (I 10 (6 * j + 3) 0)) 200000)) 10 (6 * j + 1) 0) + ((xm_up I 10 (6 * j) 0 (xf_X5_bounded ((I 10 (6 * j) 0) + (I 10 (6 * j + 3) 0)) 200000)) 10 (6 * j + 4) 0)) 200000)) 10 (6 * j + 2) 0 (xf_X5_bounded (((xm_up (xm_up I 10 (6 * j) 0 (xf_X5_bounded ((I 10 (6 * j) 0) + (I 10 (6 * j + 3) 0)) 200000)) 10 (6 * j + 1) 0 (xf_X5_bounded (((xm_up I 10 (6 * j) 0 (xf_X5_bounded ((I 10 (6 * j) 0) + (I 10 (6 * j + 3) 0)) 200000)) 10 (6 * j + 1) 0) + ((xm_up I 10 (6 * j) 0 (xf_X5_bounded ((I 10 (6 * j) 0) + (I 10 (6 * j + 3) 0)) 200000)) 10 (6 * j + 4) 0)) 200000)) 10 (6 * j + 2) 0) + ((xm_up (xm_up I 10 (6 * j) 0 (xf_X5_bounded ((I 10 (6 * j) 0) + (I 10 (6 * j + 3) 0)) 200000)) 10 (6 * j + 1) 0 (xf_X5_bounded (((xm_up I 10 (6 * j) 0 (xf_X5_bounded ((I 10 (6 * j) 0) + (I 10 (6 * j + 3) 0)) 200000)) 10 (6 * j + 1) 0) + ((xm_up I 10 (6 * j) 0 (xf_X5_bounded ((I 10 (6 * j) 0) + (I 10 (6 * j + 3) 0)) 200000)) 10 (6 * j + 4) 0)) 200000)) 10 (6 * j + 5) 0)) 20000)) L, 0, 0)) 2 rfl ?_
      refine xK.forget (a := [(0, xm_r 5 0), (1, xm_i ((nI j) + 1))]) hmo hE (of_decide_eq_true rfl) ⟨rfl, rfl, trivial⟩ ?_
      rw [nI_1 j]
      refine ih (j + 1) (by omega) (xm_up (xm_up (xm_up I 10 (6 * j) 0 (xf_X5_bounded ((I 10 (6 * j) 0) + (I 10 (6 * j + 3) 0)) 200000)) 10 (6 * j + 1) 0 (xf_X5_bounded (((xm_up I 10 (6 * j) 0 (xf_X5_bounded ((I 10 (6 * j) 0) + (I 10 (6 * j + 3) 0)) 200000)) 10 (6 * j + 1) 0) + ((xm_up I 10 (6 * j) 0 (xf_X5_bounded ((I 10 (6 * j) 0) + (I 10 (6 * j + 3) 0)) 200000)) 10 (6 * j + 4) 0)) 200000)) 10 (6 * j + 2) 0 (xf_X5_bounded (((xm_up (xm_up I 10 (6 * j) 0 (xf_X5_bounded ((I 10 (6 * j) 0) + (I 10 (6 * j + 3) 0)) 200000)) 10 (6 * j + 1) 0 (xf_X5_bounded (((xm_up I 10 (6 * j) 0 (xf_X5_bounded ((I 10 (6 * j) 0) + (I 10 (6 * j + 3) 0)) 200000)) 10 (6 * j + 1) 0) + ((xm_up I 10 (6 * j) 0 (xf_X5_bounded ((I 10 (6 * j) 0) + (I 10 (6 * j + 3) 0)) 200000)) 10 (6 * j + 4) 0)) 200000)) 10 (6 * j + 2) 0) + ((xm_up (xm_up I 10 (6 * j) 0 (xf_X5_bounded ((I 10 (6 * j) 0) + (I 10 (6 * j + 3) 0)) 200000)) 10 (6 * j + 1) 0 (xf_X5_bounded (((xm_up I 10 (6 * j) 0 (xf_X5_bounded ((I 10 (6 * j) 0) + (I 10 (6 * j + 3) 0)) 200000)) 10 (6 * j + 1) 0) + ((xm_up I 10 (6 * j) 0 (xf_X5_bounded ((I 10 (6 * j) 0) + (I 10 (6 * j + 3) 0)) 200000)) 10 (6 * j + 4) 0)) 200000)) 10 (6 * j + 5) 0)) 20000)) L ?_
      rw [show xg_moves  (n + 1) j I L  = xg_moves  n (j + 1) (xm_up (xm_up (xm_up I 10 (6 * j) 0 (xf_X5_bounded ((I 10 (6 * j) 0) + (I 10 (6 * j + 3) 0)) 200000)) 10 (6 * j + 1) 0 (xf_X5_bounded (((xm_up I 10 (6 * j) 0 (xf_X5_bounded ((I 10 (6 * j) 0) + (I 10 (6 * j + 3) 0)) 200000)) 10 (6 * j + 1) 0) + ((xm_up I 10 (6 * j) 0 (xf_X5_bounded ((I 10 (6 * j) 0) + (I 10 (6 * j + 3) 0)) 200000)) 10 (6 * j + 4) 0)) 200000)) 10 (6 * j + 2) 0 (xf_X5_bounded (((xm_up (xm_up I 10 (6 * j) 0 (xf_X5_bounded ((I 10 (6 * j) 0) + (I 10 (6 * j + 3) 0)) 200000)) 10 (6 * j + 1) 0 (xf_X5_bounded (((xm_up I 10 (6 * j) 0 (xf_X5_bounded ((I 10 (6 * j) 0) + (I 10 (6 * j + 3) 0)) 200000)) 10 (6 * j + 1) 0) + ((xm_up I 10 (6 * j) 0 (xf_X5_bounded ((I 10 (6 * j) 0) + (I 10 (6 * j + 3) 0)) 200000)) 10 (6 * j + 4) 0)) 200000)) 10 (6 * j + 2) 0) + ((xm_up (xm_up I 10 (6 * j) 0 (xf_X5_bounded ((I 10 (6 * j) 0) + (I 10 (6 * j + 3) 0)) 200000)) 10 (6 * j + 1) 0 (xf_X5_bounded (((xm_up I 10 (6 * j) 0 (xf_X5_bounded ((I 10 (6 * j) 0) + (I 10 (6 * j + 3) 0)) 200000)) 10 (6 * j + 1) 0) + ((xm_up I 10 (6 * j) 0 (xf_X5_bounded ((I 10 (6 * j) 0) + (I 10 (6 * j + 3) 0)) 200000)) 10 (6 * j + 4) 0)) 200000)) 10 (6 * j + 5) 0)) 20000)) L from by rw [xg_moves]; rw [if_neg h1]] at hk
      exact hk
def xwI_moves  (I : xh_I) (L : xh_L)  : xh_I := (xg_moves  6 0 I L ).1
def xwL_moves  (I : xh_I) (L : xh_L)  : xh_L := (xg_moves  6 0 I L ).2
theorem xl_moves_w (d : Nat)   {E : Nat → xm_S → Prop} (hE : xm_Ei E) (I : xh_I) (L : xh_L)   (hk : xK (d + 1) xt_X5_move 137 ([(0, xm_r 5 0), (1, xm_i 6)], [], xh_M (xwI_moves  I L ) (xwL_moves  I L ), 0, 0) E) : xK (d + 1) xt_X5_move 2 ([(0, xm_r 5 0), (1, xm_i 0)], [], xh_M I L, 0, 0) E :=
  xl_moves d   hE 6 0 rfl  I L   hk
set_option linter.unusedVariables false in
def xg_measI (i : Nat) : Nat → Nat → xh_I → xh_L → xh_I × xh_L
  | 0, j, I, L => (I, L)
  | n + 1, j, I, L => if (I 8 i 0) = 0 then (xg_measI i n (j + 1) I L) else (if (I 8 j 0) = 0 then (xg_measI i n (j + 1) I L) else (xg_measI i n (j + 1) (xfI_X5_measure I L i j) (xfL_X5_measure I L i j)))
set_option maxHeartbeats 4000000 in
set_option maxRecDepth 100000 in
theorem xl_measI (d : Nat) (i : Nat) (hi : i < 6) {E : Nat → xm_S → Prop} (hE : xm_Ei E) : ∀ (n j : Nat), j + n = 6 → ∀ (I : xh_I) (L : xh_L) , xK (d + 2) xt_X5_move 185 ([(0, xm_r 5 0), (1, xm_i (nI i)), (2, xm_i 6)], [], xh_M (xg_measI i n j I L ).1 (xg_measI i n j I L ).2, 0, 0) E → xK (d + 2) xt_X5_move 149 ([(0, xm_r 5 0), (1, xm_i (nI i)), (2, xm_i (nI j))], [], xh_M I L, 0, 0) E := by
  have hmo := xmt_X5_move
  intro n
  induction n with
  | zero =>
    intro j hj I L  hk
    have hjN : j = 6 := by omega
    subst hjN
    refine xK.run (q := (152, ([(0, xm_r 5 0), (1, xm_i (nI i)), (2, xm_i (nI 6))], [xm_i 6, xm_i (nI 6)], xh_M I L, 0, 0))) 2 rfl ?_
    exact xK.icmp rfl (fun _ => hk) (fun h9 => absurd (by decide) h9)
  | succ n ih =>
    intro j hj I L  hk
    have hj8 : j < 6 := by omega
    have hj9 : ¬ (6 : Int32) ≤ nI j := nI_ge (b := 6) hj8 (by decide)
    refine xK.run (q := (152, [(0, xm_r 5 0), (1, xm_i (nI i)), (2, xm_i (nI j))], [xm_i 6, xm_i (nI j)], xh_M I L, 0, 0)) 2 rfl ?_
    refine xK.icmp rfl (fun h9 => absurd h9 hj9) (fun _ => ?_)
    refine xK.run (q := (160, [(0, xm_r 5 0), (1, xm_i (nI i)), (2, xm_i (nI j))], [xm_i (nI i), xm_r 8 0], xh_M I L, 0, 0)) 3 rfl ?_
    refine xK.zald' rfl rfl (xh_ix_nI (N := 6) hi (by decide)) ?_
    refine xK.ifI rfl (fun (h1 : (I 8 i 0) = 0) => ?_) (fun (h1 : ¬ (I 8 i 0) = 0) => ?_)
    · skip
      refine xK.run (q := (149, [(0, xm_r 5 0), (1, xm_i (nI i)), (2, xm_i ((nI j) + 1))], [], xh_M I L, 0, 0)) 2 rfl ?_
      refine xK.forget (a := [(0, xm_r 5 0), (1, xm_i (nI i)), (2, xm_i ((nI j) + 1))]) hmo hE (of_decide_eq_true rfl) ⟨rfl, rfl, rfl, trivial⟩ ?_
      rw [nI_1 j]
      refine ih (j + 1) (by omega) I L ?_
      rw [show xg_measI i (n + 1) j I L  = xg_measI i n (j + 1) I L from by rw [xg_measI]; rw [if_pos h1]] at hk
      exact hk
    · skip
      refine xK.run (q := (169, [(0, xm_r 5 0), (1, xm_i (nI i)), (2, xm_i (nI j))], [xm_i (nI j), xm_r 8 0], xh_M I L, 0, 0)) 3 rfl ?_
      refine xK.zald' rfl rfl (xh_ix_nI (N := 6) hj8 (by decide)) ?_
      refine xK.ifI rfl (fun (h2 : (I 8 j 0) = 0) => ?_) (fun (h2 : ¬ (I 8 j 0) = 0) => ?_)
      · skip
        refine xK.run (q := (149, [(0, xm_r 5 0), (1, xm_i (nI i)), (2, xm_i ((nI j) + 1))], [], xh_M I L, 0, 0)) 2 rfl ?_
        refine xK.forget (a := [(0, xm_r 5 0), (1, xm_i (nI i)), (2, xm_i ((nI j) + 1))]) hmo hE (of_decide_eq_true rfl) ⟨rfl, rfl, rfl, trivial⟩ ?_
        rw [nI_1 j]
        refine ih (j + 1) (by omega) I L ?_
        rw [show xg_measI i (n + 1) j I L  = xg_measI i n (j + 1) I L from by rw [xg_measI]; rw [if_neg h1, if_pos h2]] at hk
        exact hk
      · skip
        refine xK.run (q := (176, [(0, xm_r 5 0), (1, xm_i (nI i)), (2, xm_i (nI j))], [xm_i (nI j), xm_i (nI i), xm_r 5 0], xh_M I L, 0, 0)) 3 rfl ?_
        refine xK.call [xm_r 5 0, xm_i (nI i), xm_i (nI j)] (xd_X5_measure d I L i hi j hj8) rfl rfl rfl (Or.inr ⟨_, _, rfl⟩) (Nat.le_of_ble_eq_true rfl) ?_
        refine xK.run (q := (149, [(0, xm_r 5 0), (1, xm_i (nI i)), (2, xm_i ((nI j) + 1))], [], xh_M (xfI_X5_measure I L i j) (xfL_X5_measure I L i j), 0, 0)) 2 rfl ?_
        refine xK.forget (a := [(0, xm_r 5 0), (1, xm_i (nI i)), (2, xm_i ((nI j) + 1))]) hmo hE (of_decide_eq_true rfl) ⟨rfl, rfl, rfl, trivial⟩ ?_
        rw [nI_1 j]
        refine ih (j + 1) (by omega) (xfI_X5_measure I L i j) (xfL_X5_measure I L i j) ?_
        rw [show xg_measI i (n + 1) j I L  = xg_measI i n (j + 1) (xfI_X5_measure I L i j) (xfL_X5_measure I L i j) from by rw [xg_measI]; rw [if_neg h1, if_neg h2]] at hk
        exact hk
def xwI_measI (i : Nat) (I : xh_I) (L : xh_L)  : xh_I := (xg_measI i (5 - i) (i + 1) I L ).1
def xwL_measI (i : Nat) (I : xh_I) (L : xh_L)  : xh_L := (xg_measI i (5 - i) (i + 1) I L ).2
theorem xl_measI_w (d : Nat) (i : Nat) (hi : i < 6) {E : Nat → xm_S → Prop} (hE : xm_Ei E) (I : xh_I) (L : xh_L)   (hk : xK (d + 2) xt_X5_move 185 ([(0, xm_r 5 0), (1, xm_i (nI i)), (2, xm_i 6)], [], xh_M (xwI_measI i I L ) (xwL_measI i I L ), 0, 0) E) : xK (d + 2) xt_X5_move 149 ([(0, xm_r 5 0), (1, xm_i (nI i)), (2, xm_i (nI (i + 1)))], [], xh_M I L, 0, 0) E :=
  xl_measI d i hi hE (5 - i) (i + 1) (by omega)  I L   hk
set_option linter.unusedVariables false in
def xg_meas  : Nat → Nat → xh_I → xh_L → xh_I × xh_L
  | 0, j, I, L => (I, L)
  | n + 1, j, I, L => xg_meas  n (j + 1) (xwI_measI j I L) (xwL_measI j I L)
set_option maxHeartbeats 4000000 in
set_option maxRecDepth 100000 in
theorem xl_meas (d : Nat)   {E : Nat → xm_S → Prop} (hE : xm_Ei E) : ∀ (n j : Nat), j + n = 6 → ∀ (I : xh_I) (L : xh_L) , xK (d + 2) xt_X5_move 191 ([(0, xm_r 5 0), (1, xm_i 6)], [], xh_M (xg_meas  n j I L ).1 (xg_meas  n j I L ).2, 0, 0) E → xK (d + 2) xt_X5_move 139 ([(0, xm_r 5 0), (1, xm_i (nI j))], [], xh_M I L, 0, 0) E := by
  have hmo := xmt_X5_move
  intro n
  induction n with
  | zero =>
    intro j hj I L  hk
    have hjN : j = 6 := by omega
    subst hjN
    refine xK.run (q := (142, ([(0, xm_r 5 0), (1, xm_i (nI 6))], [xm_i 6, xm_i (nI 6)], xh_M I L, 0, 0))) 2 rfl ?_
    exact xK.icmp rfl (fun _ => hk) (fun h9 => absurd (by decide) h9)
  | succ n ih =>
    intro j hj I L  hk
    have hj8 : j < 6 := by omega
    have hj9 : ¬ (6 : Int32) ≤ nI j := nI_ge (b := 6) hj8 (by decide)
    refine xK.run (q := (142, [(0, xm_r 5 0), (1, xm_i (nI j))], [xm_i 6, xm_i (nI j)], xh_M I L, 0, 0)) 2 rfl ?_
    refine xK.icmp rfl (fun h9 => absurd h9 hj9) (fun _ => ?_)
    refine xK.run (q := (149, [(0, xm_r 5 0), (1, xm_i (nI j)), (2, xm_i ((nI j) + 1))], [], xh_M I L, 0, 0)) 4 rfl ?_
    rw [nI_1 j]
    refine xl_measI_w d j hj8 hE I L   ?_
    refine xK.run (q := (139, [(0, xm_r 5 0), (1, xm_i ((nI j) + 1)), (2, xm_i 6)], [], xh_M (xwI_measI j I L) (xwL_measI j I L), 0, 0)) 2 rfl ?_
    refine xK.forget (a := [(0, xm_r 5 0), (1, xm_i ((nI j) + 1))]) hmo hE (of_decide_eq_true rfl) ⟨rfl, rfl, trivial⟩ ?_
    rw [nI_1 j]
    refine ih (j + 1) (by omega) (xwI_measI j I L) (xwL_measI j I L) ?_
    rw [show xg_meas  (n + 1) j I L  = xg_meas  n (j + 1) (xwI_measI j I L) (xwL_measI j I L) from by rw [xg_meas]] at hk
    exact hk
def xwI_meas  (I : xh_I) (L : xh_L)  : xh_I := (xg_meas  6 0 I L ).1
def xwL_meas  (I : xh_I) (L : xh_L)  : xh_L := (xg_meas  6 0 I L ).2
theorem xl_meas_w (d : Nat)   {E : Nat → xm_S → Prop} (hE : xm_Ei E) (I : xh_I) (L : xh_L)   (hk : xK (d + 2) xt_X5_move 191 ([(0, xm_r 5 0), (1, xm_i 6)], [], xh_M (xwI_meas  I L ) (xwL_meas  I L ), 0, 0) E) : xK (d + 2) xt_X5_move 139 ([(0, xm_r 5 0), (1, xm_i 0)], [], xh_M I L, 0, 0) E :=
  xl_meas d   hE 6 0 rfl  I L   hk
set_option linter.unusedVariables false in
def xfI_X5_move (I : xh_I) (L : xh_L)  : xh_I := (xwI_meas (xwI_moves I L) (xwL_moves I L))
set_option linter.unusedVariables false in
def xfL_X5_move (I : xh_I) (L : xh_L)  : xh_L := (xwL_meas (xwI_moves I L) (xwL_moves I L))
set_option maxHeartbeats 4000000 in
set_option maxRecDepth 100000 in
theorem xd_X5_move (d : Nat) (I : xh_I) (L : xh_L) : xm_Do xp_pg (d + 3) 92 [xm_r 5 0] (xh_M I L) none (xh_M (xfI_X5_move I L) (xfL_X5_move I L)) 0 0 := by
  refine xK.of (Nat.le_of_ble_eq_true rfl) rfl ?_
  refine xK.run (q := (2, [(0, xm_r 5 0), (1, xm_i 0)], [], xh_M I L, 0, 0)) 2 rfl ?_
  refine xl_moves_w (d + 1)   xm_Ei_E I L   ?_
  refine xK.run (q := (139, [(0, xm_r 5 0), (1, xm_i 0)], [], xh_M (xwI_moves I L) (xwL_moves I L), 0, 0)) 2 rfl ?_
  refine xl_meas_w d   xm_Ei_E (xwI_moves I L) (xwL_moves I L)   ?_
  exact xK.ret rfl ⟨rfl, rfl⟩
set_option linter.unusedVariables false in
def xg_obeys (i : Nat) : Nat → Nat → xh_I → xh_L → Int32 → Int32 → Int32 × Int32 × xh_I × xh_L
  | 0, j, I, L, a, b => (a, b, I, L)
  | n + 1, j, I, L, a, b => if (nI j) = (nI i) then (xg_obeys i n (j + 1) I L a b) else (if (I 11 (xh_p6 i j) 0) ≤ 0 then (xg_obeys i n (j + 1) I L a b) else (if (I 13 (xh_p6 i j) 0) < (I 7 5 0) then (xg_obeys i n (j + 1) I L a b) else (if (nI j) ≤ (nI i) then (if (I 11 (xh_p6 i j) 0) = 1 then (if (I 12 (xh_p6 i j) 0) ≤ b then (xg_obeys i n (j + 1) I L a b) else (xg_obeys i n (j + 1) I L a (I 12 (xh_p6 i j) 0))) else (if (I 12 (xh_p6 i j) 0) ≤ a then (xg_obeys i n (j + 1) I L a b) else (xg_obeys i n (j + 1) I L (I 12 (xh_p6 i j) 0) b))) else (if (I 11 (xh_p6 i j) 0) = 1 then (if (I 12 (xh_p6 i j) 0) ≤ a then (xg_obeys i n (j + 1) I L a b) else (xg_obeys i n (j + 1) I L (I 12 (xh_p6 i j) 0) b)) else (if (I 12 (xh_p6 i j) 0) ≤ b then (xg_obeys i n (j + 1) I L a b) else (xg_obeys i n (j + 1) I L a (I 12 (xh_p6 i j) 0)))))))
set_option maxHeartbeats 4000000 in
set_option maxRecDepth 100000 in
theorem xl_obeys (d : Nat) (i : Nat) (hi : i < 6) {E : Nat → xm_S → Prop} (hE : xm_Ei E) : ∀ (n j : Nat), j + n = 6 → ∀ (I : xh_I) (L : xh_L) (a : Int32) (b : Int32), xK (d + 1) xt_X5_obey 163 ([(0, xm_r 5 0), (1, xm_i (nI i)), (2, xm_i ((xg_obeys i n j I L a b).1)), (3, xm_i ((xg_obeys i n j I L a b).2.1)), (4, xm_i 6)], [], xh_M (xg_obeys i n j I L a b).2.2.1 (xg_obeys i n j I L a b).2.2.2, 0, 0) E → xK (d + 1) xt_X5_obey 7 ([(0, xm_r 5 0), (1, xm_i (nI i)), (2, xm_i a), (3, xm_i b), (4, xm_i (nI j))], [], xh_M I L, 0, 0) E := by
  have hmo := xmt_X5_obey
  intro n
  induction n with
  | zero =>
    intro j hj I L a b hk
    have hjN : j = 6 := by omega
    subst hjN
    refine xK.run (q := (11, ([(0, xm_r 5 0), (1, xm_i (nI i)), (2, xm_i a), (3, xm_i b), (4, xm_i (nI 6))], [xm_i 6, xm_i (nI 6)], xh_M I L, 0, 0))) 2 rfl ?_
    exact xK.icmp rfl (fun _ => hk) (fun h9 => absurd (by decide) h9)
  | succ n ih =>
    intro j hj I L a b hk
    have hj8 : j < 6 := by omega
    have hj9 : ¬ (6 : Int32) ≤ nI j := nI_ge (b := 6) hj8 (by decide)
    refine xK.run (q := (11, [(0, xm_r 5 0), (1, xm_i (nI i)), (2, xm_i a), (3, xm_i b), (4, xm_i (nI j))], [xm_i 6, xm_i (nI j)], xh_M I L, 0, 0)) 2 rfl ?_
    refine xK.icmp rfl (fun h9 => absurd h9 hj9) (fun _ => ?_)
    refine xK.run (q := (17, [(0, xm_r 5 0), (1, xm_i (nI i)), (2, xm_i a), (3, xm_i b), (4, xm_i (nI j))], [xm_i (nI i), xm_i (nI j)], xh_M I L, 0, 0)) 2 rfl ?_
    refine xK.icmpN rfl (fun (h1 : (nI j) = (nI i)) => ?_) (fun (h1 : ¬ (nI j) = (nI i)) => ?_)
    · skip
      refine xK.run (q := (35, [(0, xm_r 5 0), (1, xm_i (nI i)), (2, xm_i a), (3, xm_i b), (4, xm_i (nI j)), (5, xm_i 0)], [xm_i (nI i), xm_i (nI j)], xh_M I L, 0, 0)) 5 rfl ?_
      refine xK.icmp rfl (fun _ => ?_) (fun h9 => absurd h1 h9)
      refine xK.run (q := (7, [(0, xm_r 5 0), (1, xm_i (nI i)), (2, xm_i a), (3, xm_i b), (4, xm_i ((nI j) + 1)), (5, xm_i 0)], [], xh_M I L, 0, 0)) 2 rfl ?_
      refine xK.forget (a := [(0, xm_r 5 0), (1, xm_i (nI i)), (2, xm_i a), (3, xm_i b), (4, xm_i ((nI j) + 1))]) hmo hE (of_decide_eq_true rfl) ⟨rfl, rfl, rfl, rfl, rfl, trivial⟩ ?_
      rw [nI_1 j]
      refine ih (j + 1) (by omega) I L a b ?_
      rw [show xg_obeys i (n + 1) j I L a b = xg_obeys i n (j + 1) I L a b from by rw [xg_obeys]; rw [if_pos h1]] at hk
      exact hk
    · skip
      refine xK.run (q := (27, [(0, xm_r 5 0), (1, xm_i (nI i)), (2, xm_i a), (3, xm_i b), (4, xm_i (nI j))], [xm_i (nI j), xm_i (nI i)], xh_M I L, 0, 0)) 2 rfl ?_
      refine xK.call [xm_i (nI i), xm_i (nI j)] (xd_X5_pairOf d I L (nI i) (nI j)) rfl rfl rfl (Or.inl rfl) (Nat.le_of_ble_eq_true rfl) ?_
      refine xK.run (q := (35, [(0, xm_r 5 0), (1, xm_i (nI i)), (2, xm_i a), (3, xm_i b), (4, xm_i (nI j)), (5, xm_i (xf_X5_pairOf (nI i) (nI j)))], [xm_i (nI i), xm_i (nI j)], xh_M I L, 0, 0)) 3 rfl ?_
      refine xK.icmp rfl (fun h9 => absurd h9 h1) (fun _ => ?_)
      refine xK.run (q := (44, [(0, xm_r 5 0), (1, xm_i (nI i)), (2, xm_i a), (3, xm_i b), (4, xm_i (nI j)), (5, xm_i (xf_X5_pairOf (nI i) (nI j)))], [xm_i (xf_X5_pairOf (nI i) (nI j)), xm_r 11 0], xh_M I L, 0, 0)) 3 rfl ?_
      refine xK.iald' rfl rfl (xh_p6_ix hi hj8) ?_
      refine xK.ifI rfl (fun (h2 : (I 11 (xh_p6 i j) 0) ≤ 0) => ?_) (fun (h2 : ¬ (I 11 (xh_p6 i j) 0) ≤ 0) => ?_)
      · skip
        refine xK.run (q := (7, [(0, xm_r 5 0), (1, xm_i (nI i)), (2, xm_i a), (3, xm_i b), (4, xm_i ((nI j) + 1)), (5, xm_i (xf_X5_pairOf (nI i) (nI j)))], [], xh_M I L, 0, 0)) 2 rfl ?_
        refine xK.forget (a := [(0, xm_r 5 0), (1, xm_i (nI i)), (2, xm_i a), (3, xm_i b), (4, xm_i ((nI j) + 1))]) hmo hE (of_decide_eq_true rfl) ⟨rfl, rfl, rfl, rfl, rfl, trivial⟩ ?_
        rw [nI_1 j]
        refine ih (j + 1) (by omega) I L a b ?_
        rw [show xg_obeys i (n + 1) j I L a b = xg_obeys i n (j + 1) I L a b from by rw [xg_obeys]; rw [if_neg h1, if_pos h2]] at hk
        exact hk
      · skip
        refine xK.run (q := (54, [(0, xm_r 5 0), (1, xm_i (nI i)), (2, xm_i a), (3, xm_i b), (4, xm_i (nI j)), (5, xm_i (xf_X5_pairOf (nI i) (nI j)))], [xm_i (xf_X5_pairOf (nI i) (nI j)), xm_r 13 0], xh_M I L, 0, 0)) 3 rfl ?_
        refine xK.iald' rfl rfl (xh_p6_ix hi hj8) ?_
        refine xK.run (q := (60, [(0, xm_r 5 0), (1, xm_i (nI i)), (2, xm_i a), (3, xm_i b), (4, xm_i (nI j)), (5, xm_i (xf_X5_pairOf (nI i) (nI j)))], [xm_i 5, xm_r 7 0, xm_i (I 13 (xh_p6 i j) 0)], xh_M I L, 0, 0)) 3 rfl ?_
        refine xK.iald' rfl rfl (show xh_ix 5 5 7 by decide) ?_
        refine xK.icmp rfl (fun (h3 : (I 13 (xh_p6 i j) 0) < (I 7 5 0)) => ?_) (fun (h3 : ¬ (I 13 (xh_p6 i j) 0) < (I 7 5 0)) => ?_)
        · skip
          refine xK.run (q := (7, [(0, xm_r 5 0), (1, xm_i (nI i)), (2, xm_i a), (3, xm_i b), (4, xm_i ((nI j) + 1)), (5, xm_i (xf_X5_pairOf (nI i) (nI j)))], [], xh_M I L, 0, 0)) 2 rfl ?_
          refine xK.forget (a := [(0, xm_r 5 0), (1, xm_i (nI i)), (2, xm_i a), (3, xm_i b), (4, xm_i ((nI j) + 1))]) hmo hE (of_decide_eq_true rfl) ⟨rfl, rfl, rfl, rfl, rfl, trivial⟩ ?_
          rw [nI_1 j]
          refine ih (j + 1) (by omega) I L a b ?_
          rw [show xg_obeys i (n + 1) j I L a b = xg_obeys i n (j + 1) I L a b from by rw [xg_obeys]; rw [if_neg h1, if_neg h2, if_pos h3]] at hk
          exact hk
        · skip
          refine xK.run (q := (67, [(0, xm_r 5 0), (1, xm_i (nI i)), (2, xm_i a), (3, xm_i b), (4, xm_i (nI j)), (5, xm_i (xf_X5_pairOf (nI i) (nI j)))], [xm_i (nI j), xm_i (nI i)], xh_M I L, 0, 0)) 2 rfl ?_
          refine xK.icmp rfl (fun (h4 : (nI j) ≤ (nI i)) => ?_) (fun (h4 : ¬ (nI j) ≤ (nI i)) => ?_)
          · skip
            refine xK.run (q := (81, [(0, xm_r 5 0), (1, xm_i (nI i)), (2, xm_i a), (3, xm_i b), (4, xm_i (nI j)), (5, xm_i (xf_X5_pairOf (nI i) (nI j)))], [xm_i (xf_X5_pairOf (nI i) (nI j)), xm_r 11 0, xm_i 0], xh_M I L, 0, 0)) 4 rfl ?_
            refine xK.iald' rfl rfl (xh_p6_ix hi hj8) ?_
            refine xK.run (q := (83, [(0, xm_r 5 0), (1, xm_i (nI i)), (2, xm_i a), (3, xm_i b), (4, xm_i (nI j)), (5, xm_i (xf_X5_pairOf (nI i) (nI j)))], [xm_i 1, xm_i (I 11 (xh_p6 i j) 0), xm_i 0], xh_M I L, 0, 0)) 1 rfl ?_
            refine xK.icmpN rfl (fun (h5 : (I 11 (xh_p6 i j) 0) = 1) => ?_) (fun (h5 : ¬ (I 11 (xh_p6 i j) 0) = 1) => ?_)
            · skip
              refine xK.run (q := (91, [(0, xm_r 5 0), (1, xm_i (nI i)), (2, xm_i a), (3, xm_i b), (4, xm_i (nI j)), (5, xm_i (xf_X5_pairOf (nI i) (nI j)))], [xm_i 1, xm_i 0], xh_M I L, 0, 0)) 2 rfl ?_
              refine xK.icmpN rfl (fun h9 => absurd h9 (by decide)) (fun _ => ?_)
              refine xK.run (q := (103, [(0, xm_r 5 0), (1, xm_i (nI i)), (2, xm_i a), (3, xm_i b), (4, xm_i (nI j)), (5, xm_i (xf_X5_pairOf (nI i) (nI j))), (6, xm_i 0)], [xm_i 0], xh_M I L, 0, 0)) 3 rfl ?_
              refine xK.ifI rfl (fun _ => ?_) (fun h9 => absurd (by decide) h9)
              refine xK.run (q := (131, [(0, xm_r 5 0), (1, xm_i (nI i)), (2, xm_i a), (3, xm_i b), (4, xm_i (nI j)), (5, xm_i (xf_X5_pairOf (nI i) (nI j))), (6, xm_i 0)], [xm_i 0], xh_M I L, 0, 0)) 3 rfl ?_
              refine xK.ifN rfl (fun _ => ?_) (fun h9 => absurd (by decide) h9)
              refine xK.run (q := (140, [(0, xm_r 5 0), (1, xm_i (nI i)), (2, xm_i a), (3, xm_i b), (4, xm_i (nI j)), (5, xm_i (xf_X5_pairOf (nI i) (nI j))), (6, xm_i 0)], [xm_i (xf_X5_pairOf (nI i) (nI j)), xm_r 12 0], xh_M I L, 0, 0)) 3 rfl ?_
              refine xK.iald' rfl rfl (xh_p6_ix hi hj8) ?_
              refine xK.run (q := (142, [(0, xm_r 5 0), (1, xm_i (nI i)), (2, xm_i a), (3, xm_i b), (4, xm_i (nI j)), (5, xm_i (xf_X5_pairOf (nI i) (nI j))), (6, xm_i 0)], [xm_i b, xm_i (I 12 (xh_p6 i j) 0)], xh_M I L, 0, 0)) 1 rfl ?_
              refine xK.icmp rfl (fun (h6 : (I 12 (xh_p6 i j) 0) ≤ b) => ?_) (fun (h6 : ¬ (I 12 (xh_p6 i j) 0) ≤ b) => ?_)
              · skip
                refine xK.run (q := (7, [(0, xm_r 5 0), (1, xm_i (nI i)), (2, xm_i a), (3, xm_i b), (4, xm_i ((nI j) + 1)), (5, xm_i (xf_X5_pairOf (nI i) (nI j))), (6, xm_i 0)], [], xh_M I L, 0, 0)) 4 rfl ?_
                refine xK.forget (a := [(0, xm_r 5 0), (1, xm_i (nI i)), (2, xm_i a), (3, xm_i b), (4, xm_i ((nI j) + 1))]) hmo hE (of_decide_eq_true rfl) ⟨rfl, rfl, rfl, rfl, rfl, trivial⟩ ?_
                rw [nI_1 j]
                refine ih (j + 1) (by omega) I L a b ?_
                rw [show xg_obeys i (n + 1) j I L a b = xg_obeys i n (j + 1) I L a b from by rw [xg_obeys]; rw [if_neg h1, if_neg h2, if_neg h3, if_pos h4, if_pos h5, if_pos h6]] at hk
                exact hk
              · skip
                refine xK.run (q := (151, [(0, xm_r 5 0), (1, xm_i (nI i)), (2, xm_i a), (3, xm_i b), (4, xm_i (nI j)), (5, xm_i (xf_X5_pairOf (nI i) (nI j))), (6, xm_i 0)], [xm_i (xf_X5_pairOf (nI i) (nI j)), xm_r 12 0], xh_M I L, 0, 0)) 3 rfl ?_
                refine xK.iald' rfl rfl (xh_p6_ix hi hj8) ?_
                refine xK.run (q := (7, [(0, xm_r 5 0), (1, xm_i (nI i)), (2, xm_i a), (3, xm_i (I 12 (xh_p6 i j) 0)), (4, xm_i ((nI j) + 1)), (5, xm_i (xf_X5_pairOf (nI i) (nI j))), (6, xm_i 0)], [], xh_M I L, 0, 0)) 4 rfl ?_
                refine xK.forget (a := [(0, xm_r 5 0), (1, xm_i (nI i)), (2, xm_i a), (3, xm_i (I 12 (xh_p6 i j) 0)), (4, xm_i ((nI j) + 1))]) hmo hE (of_decide_eq_true rfl) ⟨rfl, rfl, rfl, rfl, rfl, trivial⟩ ?_
                rw [nI_1 j]
                refine ih (j + 1) (by omega) I L a (I 12 (xh_p6 i j) 0) ?_
                rw [show xg_obeys i (n + 1) j I L a b = xg_obeys i n (j + 1) I L a (I 12 (xh_p6 i j) 0) from by rw [xg_obeys]; rw [if_neg h1, if_neg h2, if_neg h3, if_pos h4, if_pos h5, if_neg h6]] at hk
                exact hk
            · skip
              refine xK.run (q := (91, [(0, xm_r 5 0), (1, xm_i (nI i)), (2, xm_i a), (3, xm_i b), (4, xm_i (nI j)), (5, xm_i (xf_X5_pairOf (nI i) (nI j)))], [xm_i 0, xm_i 0], xh_M I L, 0, 0)) 1 rfl ?_
              refine xK.icmpN rfl (fun _ => ?_) (fun h9 => absurd (by decide) h9)
              refine xK.run (q := (103, [(0, xm_r 5 0), (1, xm_i (nI i)), (2, xm_i a), (3, xm_i b), (4, xm_i (nI j)), (5, xm_i (xf_X5_pairOf (nI i) (nI j))), (6, xm_i 1)], [xm_i 1], xh_M I L, 0, 0)) 4 rfl ?_
              refine xK.ifI rfl (fun h9 => absurd h9 (by decide)) (fun _ => ?_)
              refine xK.run (q := (112, [(0, xm_r 5 0), (1, xm_i (nI i)), (2, xm_i a), (3, xm_i b), (4, xm_i (nI j)), (5, xm_i (xf_X5_pairOf (nI i) (nI j))), (6, xm_i 1)], [xm_i (xf_X5_pairOf (nI i) (nI j)), xm_r 12 0], xh_M I L, 0, 0)) 3 rfl ?_
              refine xK.iald' rfl rfl (xh_p6_ix hi hj8) ?_
              refine xK.run (q := (114, [(0, xm_r 5 0), (1, xm_i (nI i)), (2, xm_i a), (3, xm_i b), (4, xm_i (nI j)), (5, xm_i (xf_X5_pairOf (nI i) (nI j))), (6, xm_i 1)], [xm_i a, xm_i (I 12 (xh_p6 i j) 0)], xh_M I L, 0, 0)) 1 rfl ?_
              refine xK.icmp rfl (fun (h7 : (I 12 (xh_p6 i j) 0) ≤ a) => ?_) (fun (h7 : ¬ (I 12 (xh_p6 i j) 0) ≤ a) => ?_)
              · skip
                refine xK.run (q := (131, [(0, xm_r 5 0), (1, xm_i (nI i)), (2, xm_i a), (3, xm_i b), (4, xm_i (nI j)), (5, xm_i (xf_X5_pairOf (nI i) (nI j))), (6, xm_i 1)], [xm_i 1], xh_M I L, 0, 0)) 3 rfl ?_
                refine xK.ifN rfl (fun h9 => absurd h9 (by decide)) (fun _ => ?_)
                refine xK.run (q := (7, [(0, xm_r 5 0), (1, xm_i (nI i)), (2, xm_i a), (3, xm_i b), (4, xm_i ((nI j) + 1)), (5, xm_i (xf_X5_pairOf (nI i) (nI j))), (6, xm_i 1)], [], xh_M I L, 0, 0)) 4 rfl ?_
                refine xK.forget (a := [(0, xm_r 5 0), (1, xm_i (nI i)), (2, xm_i a), (3, xm_i b), (4, xm_i ((nI j) + 1))]) hmo hE (of_decide_eq_true rfl) ⟨rfl, rfl, rfl, rfl, rfl, trivial⟩ ?_
                rw [nI_1 j]
                refine ih (j + 1) (by omega) I L a b ?_
                rw [show xg_obeys i (n + 1) j I L a b = xg_obeys i n (j + 1) I L a b from by rw [xg_obeys]; rw [if_neg h1, if_neg h2, if_neg h3, if_pos h4, if_neg h5, if_pos h7]] at hk
                exact hk
              · skip
                refine xK.run (q := (123, [(0, xm_r 5 0), (1, xm_i (nI i)), (2, xm_i a), (3, xm_i b), (4, xm_i (nI j)), (5, xm_i (xf_X5_pairOf (nI i) (nI j))), (6, xm_i 1)], [xm_i (xf_X5_pairOf (nI i) (nI j)), xm_r 12 0], xh_M I L, 0, 0)) 3 rfl ?_
                refine xK.iald' rfl rfl (xh_p6_ix hi hj8) ?_
                refine xK.run (q := (131, [(0, xm_r 5 0), (1, xm_i (nI i)), (2, xm_i (I 12 (xh_p6 i j) 0)), (3, xm_i b), (4, xm_i (nI j)), (5, xm_i (xf_X5_pairOf (nI i) (nI j))), (6, xm_i 1)], [xm_i 1], xh_M I L, 0, 0)) 3 rfl ?_
                refine xK.ifN rfl (fun h9 => absurd h9 (by decide)) (fun _ => ?_)
                refine xK.run (q := (7, [(0, xm_r 5 0), (1, xm_i (nI i)), (2, xm_i (I 12 (xh_p6 i j) 0)), (3, xm_i b), (4, xm_i ((nI j) + 1)), (5, xm_i (xf_X5_pairOf (nI i) (nI j))), (6, xm_i 1)], [], xh_M I L, 0, 0)) 4 rfl ?_
                refine xK.forget (a := [(0, xm_r 5 0), (1, xm_i (nI i)), (2, xm_i (I 12 (xh_p6 i j) 0)), (3, xm_i b), (4, xm_i ((nI j) + 1))]) hmo hE (of_decide_eq_true rfl) ⟨rfl, rfl, rfl, rfl, rfl, trivial⟩ ?_
                rw [nI_1 j]
                refine ih (j + 1) (by omega) I L (I 12 (xh_p6 i j) 0) b ?_
                rw [show xg_obeys i (n + 1) j I L a b = xg_obeys i n (j + 1) I L (I 12 (xh_p6 i j) 0) b from by rw [xg_obeys]; rw [if_neg h1, if_neg h2, if_neg h3, if_pos h4, if_neg h5, if_neg h7]] at hk
                exact hk
          · skip
            refine xK.run (q := (81, [(0, xm_r 5 0), (1, xm_i (nI i)), (2, xm_i a), (3, xm_i b), (4, xm_i (nI j)), (5, xm_i (xf_X5_pairOf (nI i) (nI j)))], [xm_i (xf_X5_pairOf (nI i) (nI j)), xm_r 11 0, xm_i 1], xh_M I L, 0, 0)) 5 rfl ?_
            refine xK.iald' rfl rfl (xh_p6_ix hi hj8) ?_
            refine xK.run (q := (83, [(0, xm_r 5 0), (1, xm_i (nI i)), (2, xm_i a), (3, xm_i b), (4, xm_i (nI j)), (5, xm_i (xf_X5_pairOf (nI i) (nI j)))], [xm_i 1, xm_i (I 11 (xh_p6 i j) 0), xm_i 1], xh_M I L, 0, 0)) 1 rfl ?_
            refine xK.icmpN rfl (fun (h8 : (I 11 (xh_p6 i j) 0) = 1) => ?_) (fun (h8 : ¬ (I 11 (xh_p6 i j) 0) = 1) => ?_)
            · skip
              refine xK.run (q := (91, [(0, xm_r 5 0), (1, xm_i (nI i)), (2, xm_i a), (3, xm_i b), (4, xm_i (nI j)), (5, xm_i (xf_X5_pairOf (nI i) (nI j)))], [xm_i 1, xm_i 1], xh_M I L, 0, 0)) 2 rfl ?_
              refine xK.icmpN rfl (fun _ => ?_) (fun h9 => absurd (by decide) h9)
              refine xK.run (q := (103, [(0, xm_r 5 0), (1, xm_i (nI i)), (2, xm_i a), (3, xm_i b), (4, xm_i (nI j)), (5, xm_i (xf_X5_pairOf (nI i) (nI j))), (6, xm_i 1)], [xm_i 1], xh_M I L, 0, 0)) 4 rfl ?_
              refine xK.ifI rfl (fun h9 => absurd h9 (by decide)) (fun _ => ?_)
              refine xK.run (q := (112, [(0, xm_r 5 0), (1, xm_i (nI i)), (2, xm_i a), (3, xm_i b), (4, xm_i (nI j)), (5, xm_i (xf_X5_pairOf (nI i) (nI j))), (6, xm_i 1)], [xm_i (xf_X5_pairOf (nI i) (nI j)), xm_r 12 0], xh_M I L, 0, 0)) 3 rfl ?_
              refine xK.iald' rfl rfl (xh_p6_ix hi hj8) ?_
              refine xK.run (q := (114, [(0, xm_r 5 0), (1, xm_i (nI i)), (2, xm_i a), (3, xm_i b), (4, xm_i (nI j)), (5, xm_i (xf_X5_pairOf (nI i) (nI j))), (6, xm_i 1)], [xm_i a, xm_i (I 12 (xh_p6 i j) 0)], xh_M I L, 0, 0)) 1 rfl ?_
              refine xK.icmp rfl (fun (h9 : (I 12 (xh_p6 i j) 0) ≤ a) => ?_) (fun (h9 : ¬ (I 12 (xh_p6 i j) 0) ≤ a) => ?_)
              · skip
                refine xK.run (q := (131, [(0, xm_r 5 0), (1, xm_i (nI i)), (2, xm_i a), (3, xm_i b), (4, xm_i (nI j)), (5, xm_i (xf_X5_pairOf (nI i) (nI j))), (6, xm_i 1)], [xm_i 1], xh_M I L, 0, 0)) 3 rfl ?_
                refine xK.ifN rfl (fun h9 => absurd h9 (by decide)) (fun _ => ?_)
                refine xK.run (q := (7, [(0, xm_r 5 0), (1, xm_i (nI i)), (2, xm_i a), (3, xm_i b), (4, xm_i ((nI j) + 1)), (5, xm_i (xf_X5_pairOf (nI i) (nI j))), (6, xm_i 1)], [], xh_M I L, 0, 0)) 4 rfl ?_
                refine xK.forget (a := [(0, xm_r 5 0), (1, xm_i (nI i)), (2, xm_i a), (3, xm_i b), (4, xm_i ((nI j) + 1))]) hmo hE (of_decide_eq_true rfl) ⟨rfl, rfl, rfl, rfl, rfl, trivial⟩ ?_
                rw [nI_1 j]
                refine ih (j + 1) (by omega) I L a b ?_
                rw [show xg_obeys i (n + 1) j I L a b = xg_obeys i n (j + 1) I L a b from by rw [xg_obeys]; rw [if_neg h1, if_neg h2, if_neg h3, if_neg h4, if_pos h8, if_pos h9]] at hk
                exact hk
              · skip
                refine xK.run (q := (123, [(0, xm_r 5 0), (1, xm_i (nI i)), (2, xm_i a), (3, xm_i b), (4, xm_i (nI j)), (5, xm_i (xf_X5_pairOf (nI i) (nI j))), (6, xm_i 1)], [xm_i (xf_X5_pairOf (nI i) (nI j)), xm_r 12 0], xh_M I L, 0, 0)) 3 rfl ?_
                refine xK.iald' rfl rfl (xh_p6_ix hi hj8) ?_
                refine xK.run (q := (131, [(0, xm_r 5 0), (1, xm_i (nI i)), (2, xm_i (I 12 (xh_p6 i j) 0)), (3, xm_i b), (4, xm_i (nI j)), (5, xm_i (xf_X5_pairOf (nI i) (nI j))), (6, xm_i 1)], [xm_i 1], xh_M I L, 0, 0)) 3 rfl ?_
                refine xK.ifN rfl (fun h9 => absurd h9 (by decide)) (fun _ => ?_)
                refine xK.run (q := (7, [(0, xm_r 5 0), (1, xm_i (nI i)), (2, xm_i (I 12 (xh_p6 i j) 0)), (3, xm_i b), (4, xm_i ((nI j) + 1)), (5, xm_i (xf_X5_pairOf (nI i) (nI j))), (6, xm_i 1)], [], xh_M I L, 0, 0)) 4 rfl ?_
                refine xK.forget (a := [(0, xm_r 5 0), (1, xm_i (nI i)), (2, xm_i (I 12 (xh_p6 i j) 0)), (3, xm_i b), (4, xm_i ((nI j) + 1))]) hmo hE (of_decide_eq_true rfl) ⟨rfl, rfl, rfl, rfl, rfl, trivial⟩ ?_
                rw [nI_1 j]
                refine ih (j + 1) (by omega) I L (I 12 (xh_p6 i j) 0) b ?_
                rw [show xg_obeys i (n + 1) j I L a b = xg_obeys i n (j + 1) I L (I 12 (xh_p6 i j) 0) b from by rw [xg_obeys]; rw [if_neg h1, if_neg h2, if_neg h3, if_neg h4, if_pos h8, if_neg h9]] at hk
                exact hk
            · skip
              refine xK.run (q := (91, [(0, xm_r 5 0), (1, xm_i (nI i)), (2, xm_i a), (3, xm_i b), (4, xm_i (nI j)), (5, xm_i (xf_X5_pairOf (nI i) (nI j)))], [xm_i 0, xm_i 1], xh_M I L, 0, 0)) 1 rfl ?_
              refine xK.icmpN rfl (fun h9 => absurd h9 (by decide)) (fun _ => ?_)
              refine xK.run (q := (103, [(0, xm_r 5 0), (1, xm_i (nI i)), (2, xm_i a), (3, xm_i b), (4, xm_i (nI j)), (5, xm_i (xf_X5_pairOf (nI i) (nI j))), (6, xm_i 0)], [xm_i 0], xh_M I L, 0, 0)) 3 rfl ?_
              refine xK.ifI rfl (fun _ => ?_) (fun h9 => absurd (by decide) h9)
              refine xK.run (q := (131, [(0, xm_r 5 0), (1, xm_i (nI i)), (2, xm_i a), (3, xm_i b), (4, xm_i (nI j)), (5, xm_i (xf_X5_pairOf (nI i) (nI j))), (6, xm_i 0)], [xm_i 0], xh_M I L, 0, 0)) 3 rfl ?_
              refine xK.ifN rfl (fun _ => ?_) (fun h9 => absurd (by decide) h9)
              refine xK.run (q := (140, [(0, xm_r 5 0), (1, xm_i (nI i)), (2, xm_i a), (3, xm_i b), (4, xm_i (nI j)), (5, xm_i (xf_X5_pairOf (nI i) (nI j))), (6, xm_i 0)], [xm_i (xf_X5_pairOf (nI i) (nI j)), xm_r 12 0], xh_M I L, 0, 0)) 3 rfl ?_
              refine xK.iald' rfl rfl (xh_p6_ix hi hj8) ?_
              refine xK.run (q := (142, [(0, xm_r 5 0), (1, xm_i (nI i)), (2, xm_i a), (3, xm_i b), (4, xm_i (nI j)), (5, xm_i (xf_X5_pairOf (nI i) (nI j))), (6, xm_i 0)], [xm_i b, xm_i (I 12 (xh_p6 i j) 0)], xh_M I L, 0, 0)) 1 rfl ?_
              refine xK.icmp rfl (fun (h10 : (I 12 (xh_p6 i j) 0) ≤ b) => ?_) (fun (h10 : ¬ (I 12 (xh_p6 i j) 0) ≤ b) => ?_)
              · skip
                refine xK.run (q := (7, [(0, xm_r 5 0), (1, xm_i (nI i)), (2, xm_i a), (3, xm_i b), (4, xm_i ((nI j) + 1)), (5, xm_i (xf_X5_pairOf (nI i) (nI j))), (6, xm_i 0)], [], xh_M I L, 0, 0)) 4 rfl ?_
                refine xK.forget (a := [(0, xm_r 5 0), (1, xm_i (nI i)), (2, xm_i a), (3, xm_i b), (4, xm_i ((nI j) + 1))]) hmo hE (of_decide_eq_true rfl) ⟨rfl, rfl, rfl, rfl, rfl, trivial⟩ ?_
                rw [nI_1 j]
                refine ih (j + 1) (by omega) I L a b ?_
                rw [show xg_obeys i (n + 1) j I L a b = xg_obeys i n (j + 1) I L a b from by rw [xg_obeys]; rw [if_neg h1, if_neg h2, if_neg h3, if_neg h4, if_neg h8, if_pos h10]] at hk
                exact hk
              · skip
                refine xK.run (q := (151, [(0, xm_r 5 0), (1, xm_i (nI i)), (2, xm_i a), (3, xm_i b), (4, xm_i (nI j)), (5, xm_i (xf_X5_pairOf (nI i) (nI j))), (6, xm_i 0)], [xm_i (xf_X5_pairOf (nI i) (nI j)), xm_r 12 0], xh_M I L, 0, 0)) 3 rfl ?_
                refine xK.iald' rfl rfl (xh_p6_ix hi hj8) ?_
                refine xK.run (q := (7, [(0, xm_r 5 0), (1, xm_i (nI i)), (2, xm_i a), (3, xm_i (I 12 (xh_p6 i j) 0)), (4, xm_i ((nI j) + 1)), (5, xm_i (xf_X5_pairOf (nI i) (nI j))), (6, xm_i 0)], [], xh_M I L, 0, 0)) 4 rfl ?_
                refine xK.forget (a := [(0, xm_r 5 0), (1, xm_i (nI i)), (2, xm_i a), (3, xm_i (I 12 (xh_p6 i j) 0)), (4, xm_i ((nI j) + 1))]) hmo hE (of_decide_eq_true rfl) ⟨rfl, rfl, rfl, rfl, rfl, trivial⟩ ?_
                rw [nI_1 j]
                refine ih (j + 1) (by omega) I L a (I 12 (xh_p6 i j) 0) ?_
                rw [show xg_obeys i (n + 1) j I L a b = xg_obeys i n (j + 1) I L a (I 12 (xh_p6 i j) 0) from by rw [xg_obeys]; rw [if_neg h1, if_neg h2, if_neg h3, if_neg h4, if_neg h8, if_neg h10]] at hk
                exact hk
def xw0_obeys (i : Nat) (I : xh_I) (L : xh_L) (a : Int32) (b : Int32) : Int32 := (xg_obeys i 6 0 I L a b).1
def xw1_obeys (i : Nat) (I : xh_I) (L : xh_L) (a : Int32) (b : Int32) : Int32 := (xg_obeys i 6 0 I L a b).2.1
def xwI_obeys (i : Nat) (I : xh_I) (L : xh_L) (a : Int32) (b : Int32) : xh_I := (xg_obeys i 6 0 I L a b).2.2.1
def xwL_obeys (i : Nat) (I : xh_I) (L : xh_L) (a : Int32) (b : Int32) : xh_L := (xg_obeys i 6 0 I L a b).2.2.2
theorem xl_obeys_w (d : Nat) (i : Nat) (hi : i < 6) {E : Nat → xm_S → Prop} (hE : xm_Ei E) (I : xh_I) (L : xh_L) (a : Int32) (b : Int32)  (hk : xK (d + 1) xt_X5_obey 163 ([(0, xm_r 5 0), (1, xm_i (nI i)), (2, xm_i (xw0_obeys i I L a b)), (3, xm_i (xw1_obeys i I L a b)), (4, xm_i 6)], [], xh_M (xwI_obeys i I L a b) (xwL_obeys i I L a b), 0, 0) E) : xK (d + 1) xt_X5_obey 7 ([(0, xm_r 5 0), (1, xm_i (nI i)), (2, xm_i a), (3, xm_i b), (4, xm_i 0)], [], xh_M I L, 0, 0) E :=
  xl_obeys d i hi hE 6 0 rfl  I L a b  hk
set_option linter.unusedVariables false in
def xfI_X5_obey (I : xh_I) (L : xh_L) (i : Nat) : xh_I := if (xw0_obeys i I L 0 0) ≤ 0 then (if (xw1_obeys i I L 0 0) ≤ 0 then (xm_up (xwI_obeys i I L 0 0) 10 (6 * i + 5) 0 ((xwI_obeys i I L 0 0) 10 (6 * i + 5) 0)) else (if ((xwI_obeys i I L 0 0) 10 (6 * i + 5) 0) ≤ ((-12) * (xw1_obeys i I L 0 0)) then (xm_up (xwI_obeys i I L 0 0) 10 (6 * i + 5) 0 ((xwI_obeys i I L 0 0) 10 (6 * i + 5) 0)) else (if (((xwI_obeys i I L 0 0) 10 (6 * i + 5) 0) - ((xwI_obeys i I L 0 0) 7 6 0)) ≤ ((-12) * (xw1_obeys i I L 0 0)) then (xm_up (xwI_obeys i I L 0 0) 10 (6 * i + 5) 0 ((-12) * (xw1_obeys i I L 0 0))) else (xm_up (xwI_obeys i I L 0 0) 10 (6 * i + 5) 0 (((xwI_obeys i I L 0 0) 10 (6 * i + 5) 0) - ((xwI_obeys i I L 0 0) 7 6 0)))))) else (if (xw1_obeys i I L 0 0) ≤ 0 then (if (12 * (xw0_obeys i I L 0 0)) ≤ ((xwI_obeys i I L 0 0) 10 (6 * i + 5) 0) then (xm_up (xwI_obeys i I L 0 0) 10 (6 * i + 5) 0 ((xwI_obeys i I L 0 0) 10 (6 * i + 5) 0)) else (if (12 * (xw0_obeys i I L 0 0)) ≤ (((xwI_obeys i I L 0 0) 10 (6 * i + 5) 0) + ((xwI_obeys i I L 0 0) 7 6 0)) then (xm_up (xwI_obeys i I L 0 0) 10 (6 * i + 5) 0 (12 * (xw0_obeys i I L 0 0))) else (xm_up (xwI_obeys i I L 0 0) 10 (6 * i + 5) 0 (((xwI_obeys i I L 0 0) 10 (6 * i + 5) 0) + ((xwI_obeys i I L 0 0) 7 6 0))))) else (if ((xwI_obeys i I L 0 0) 10 (6 * i + 5) 0) ≤ 0 then (if (-((xwI_obeys i I L 0 0) 7 6 0)) ≤ ((xwI_obeys i I L 0 0) 10 (6 * i + 5) 0) then (xm_up (xwI_obeys i I L 0 0) 10 (6 * i + 5) 0 0) else (xm_up (xwI_obeys i I L 0 0) 10 (6 * i + 5) 0 (((xwI_obeys i I L 0 0) 10 (6 * i + 5) 0) + ((xwI_obeys i I L 0 0) 7 6 0)))) else (if ((xwI_obeys i I L 0 0) 10 (6 * i + 5) 0) ≤ ((xwI_obeys i I L 0 0) 7 6 0) then (xm_up (xwI_obeys i I L 0 0) 10 (6 * i + 5) 0 0) else (xm_up (xwI_obeys i I L 0 0) 10 (6 * i + 5) 0 (((xwI_obeys i I L 0 0) 10 (6 * i + 5) 0) - ((xwI_obeys i I L 0 0) 7 6 0))))))
set_option linter.unusedVariables false in
def xfL_X5_obey (I : xh_I) (L : xh_L) (i : Nat) : xh_L := if (xw0_obeys i I L 0 0) ≤ 0 then (if (xw1_obeys i I L 0 0) ≤ 0 then (xwL_obeys i I L 0 0) else (if ((xwI_obeys i I L 0 0) 10 (6 * i + 5) 0) ≤ ((-12) * (xw1_obeys i I L 0 0)) then (xwL_obeys i I L 0 0) else (if (((xwI_obeys i I L 0 0) 10 (6 * i + 5) 0) - ((xwI_obeys i I L 0 0) 7 6 0)) ≤ ((-12) * (xw1_obeys i I L 0 0)) then (xwL_obeys i I L 0 0) else (xwL_obeys i I L 0 0)))) else (if (xw1_obeys i I L 0 0) ≤ 0 then (if (12 * (xw0_obeys i I L 0 0)) ≤ ((xwI_obeys i I L 0 0) 10 (6 * i + 5) 0) then (xwL_obeys i I L 0 0) else (if (12 * (xw0_obeys i I L 0 0)) ≤ (((xwI_obeys i I L 0 0) 10 (6 * i + 5) 0) + ((xwI_obeys i I L 0 0) 7 6 0)) then (xwL_obeys i I L 0 0) else (xwL_obeys i I L 0 0))) else (if ((xwI_obeys i I L 0 0) 10 (6 * i + 5) 0) ≤ 0 then (if (-((xwI_obeys i I L 0 0) 7 6 0)) ≤ ((xwI_obeys i I L 0 0) 10 (6 * i + 5) 0) then (xwL_obeys i I L 0 0) else (xwL_obeys i I L 0 0)) else (if ((xwI_obeys i I L 0 0) 10 (6 * i + 5) 0) ≤ ((xwI_obeys i I L 0 0) 7 6 0) then (xwL_obeys i I L 0 0) else (xwL_obeys i I L 0 0))))
set_option maxHeartbeats 4000000 in
set_option maxRecDepth 100000 in
theorem xd_X5_obey (d : Nat) (I : xh_I) (L : xh_L) (i : Nat) (hi : i < 6) : xm_Do xp_pg (d + 2) 93 [xm_r 5 0, xm_i (nI i)] (xh_M I L) none (xh_M (xfI_X5_obey I L i) (xfL_X5_obey I L i)) 0 0 := by
  refine xK.of (Nat.le_of_ble_eq_true rfl) rfl ?_
  refine xK.run (q := (7, [(0, xm_r 5 0), (1, xm_i (nI i)), (2, xm_i 0), (3, xm_i 0), (4, xm_i 0)], [], xh_M I L, 0, 0)) 6 rfl ?_
  refine xl_obeys_w d i hi xm_Ei_E I L 0 0  ?_
  refine xK.run (q := (173, [(0, xm_r 5 0), (1, xm_i (nI i)), (2, xm_i (xw0_obeys i I L 0 0)), (3, xm_i (xw1_obeys i I L 0 0)), (4, xm_i 6)], [xm_i ((6 * (nI i)) + 5), xm_r 10 0], xh_M (xwI_obeys i I L 0 0) (xwL_obeys i I L 0 0), 0, 0)) 7 rfl ?_
  refine xK.iald' rfl rfl (xh_ix6 hi (c := 5) (by decide)) ?_
  refine xK.run (q := (182, [(0, xm_r 5 0), (1, xm_i (nI i)), (2, xm_i (xw0_obeys i I L 0 0)), (3, xm_i (xw1_obeys i I L 0 0)), (4, xm_i ((xwI_obeys i I L 0 0) 10 (6 * i + 5) 0))], [xm_i 6, xm_r 7 0], xh_M (xwI_obeys i I L 0 0) (xwL_obeys i I L 0 0), 0, 0)) 4 rfl ?_
  refine xK.iald' rfl rfl (show xh_ix 6 6 7 by decide) ?_
  refine xK.run (q := (186, [(0, xm_r 5 0), (1, xm_i (nI i)), (2, xm_i (xw0_obeys i I L 0 0)), (3, xm_i (xw1_obeys i I L 0 0)), (4, xm_i ((xwI_obeys i I L 0 0) 10 (6 * i + 5) 0)), (5, xm_i ((xwI_obeys i I L 0 0) 7 6 0))], [xm_i (xw0_obeys i I L 0 0)], xh_M (xwI_obeys i I L 0 0) (xwL_obeys i I L 0 0), 0, 0)) 2 rfl ?_
  refine xK.ifI rfl (fun (h1 : (xw0_obeys i I L 0 0) ≤ 0) => ?_) (fun (h1 : ¬ (xw0_obeys i I L 0 0) ≤ 0) => ?_)
  · skip
    refine xK.run (q := (240, [(0, xm_r 5 0), (1, xm_i (nI i)), (2, xm_i (xw0_obeys i I L 0 0)), (3, xm_i (xw1_obeys i I L 0 0)), (4, xm_i ((xwI_obeys i I L 0 0) 10 (6 * i + 5) 0)), (5, xm_i ((xwI_obeys i I L 0 0) 7 6 0))], [xm_i (xw0_obeys i I L 0 0)], xh_M (xwI_obeys i I L 0 0) (xwL_obeys i I L 0 0), 0, 0)) 1 rfl ?_
    refine xK.ifI rfl (fun _ => ?_) (fun h9 => absurd h1 h9)
    refine xK.run (q := (282, [(0, xm_r 5 0), (1, xm_i (nI i)), (2, xm_i (xw0_obeys i I L 0 0)), (3, xm_i (xw1_obeys i I L 0 0)), (4, xm_i ((xwI_obeys i I L 0 0) 10 (6 * i + 5) 0)), (5, xm_i ((xwI_obeys i I L 0 0) 7 6 0))], [xm_i (xw1_obeys i I L 0 0)], xh_M (xwI_obeys i I L 0 0) (xwL_obeys i I L 0 0), 0, 0)) 1 rfl ?_
    refine xK.ifI rfl (fun (h2 : (xw1_obeys i I L 0 0) ≤ 0) => ?_) (fun (h2 : ¬ (xw1_obeys i I L 0 0) ≤ 0) => ?_)
    · skip
      refine xK.run (q := (332, [(0, xm_r 5 0), (1, xm_i (nI i)), (2, xm_i (xw0_obeys i I L 0 0)), (3, xm_i (xw1_obeys i I L 0 0)), (4, xm_i ((xwI_obeys i I L 0 0) 10 (6 * i + 5) 0)), (5, xm_i ((xwI_obeys i I L 0 0) 7 6 0))], [xm_i ((xwI_obeys i I L 0 0) 10 (6 * i + 5) 0), xm_i ((6 * (nI i)) + 5), xm_r 10 0], xh_M (xwI_obeys i I L 0 0) (xwL_obeys i I L 0 0), 0, 0)) 8 rfl ?_
      refine xK.iast' rfl rfl (xh_ix6 hi (c := 5) (by decide)) ?_
      rw [show xfI_X5_obey I L i = (xm_up (xwI_obeys i I L 0 0) 10 (6 * i + 5) 0 ((xwI_obeys i I L 0 0) 10 (6 * i + 5) 0)) from by unfold xfI_X5_obey; rw [if_pos h1, if_pos h2]]
      rw [show xfL_X5_obey I L i = (xwL_obeys i I L 0 0) from by unfold xfL_X5_obey; rw [if_pos h1, if_pos h2]]
      exact xK.ret rfl ⟨rfl, rfl⟩
    · skip
      refine xK.run (q := (291, [(0, xm_r 5 0), (1, xm_i (nI i)), (2, xm_i (xw0_obeys i I L 0 0)), (3, xm_i (xw1_obeys i I L 0 0)), (4, xm_i ((xwI_obeys i I L 0 0) 10 (6 * i + 5) 0)), (5, xm_i ((xwI_obeys i I L 0 0) 7 6 0))], [xm_i ((-12) * (xw1_obeys i I L 0 0)), xm_i ((xwI_obeys i I L 0 0) 10 (6 * i + 5) 0)], xh_M (xwI_obeys i I L 0 0) (xwL_obeys i I L 0 0), 0, 0)) 4 rfl ?_
      refine xK.icmp rfl (fun (h3 : ((xwI_obeys i I L 0 0) 10 (6 * i + 5) 0) ≤ ((-12) * (xw1_obeys i I L 0 0))) => ?_) (fun (h3 : ¬ ((xwI_obeys i I L 0 0) 10 (6 * i + 5) 0) ≤ ((-12) * (xw1_obeys i I L 0 0))) => ?_)
      · skip
        refine xK.run (q := (332, [(0, xm_r 5 0), (1, xm_i (nI i)), (2, xm_i (xw0_obeys i I L 0 0)), (3, xm_i (xw1_obeys i I L 0 0)), (4, xm_i ((xwI_obeys i I L 0 0) 10 (6 * i + 5) 0)), (5, xm_i ((xwI_obeys i I L 0 0) 7 6 0))], [xm_i ((xwI_obeys i I L 0 0) 10 (6 * i + 5) 0), xm_i ((6 * (nI i)) + 5), xm_r 10 0], xh_M (xwI_obeys i I L 0 0) (xwL_obeys i I L 0 0), 0, 0)) 8 rfl ?_
        refine xK.iast' rfl rfl (xh_ix6 hi (c := 5) (by decide)) ?_
        rw [show xfI_X5_obey I L i = (xm_up (xwI_obeys i I L 0 0) 10 (6 * i + 5) 0 ((xwI_obeys i I L 0 0) 10 (6 * i + 5) 0)) from by unfold xfI_X5_obey; rw [if_pos h1, if_neg h2, if_pos h3]]
        rw [show xfL_X5_obey I L i = (xwL_obeys i I L 0 0) from by unfold xfL_X5_obey; rw [if_pos h1, if_neg h2, if_pos h3]]
        exact xK.ret rfl ⟨rfl, rfl⟩
      · skip
        refine xK.run (q := (303, [(0, xm_r 5 0), (1, xm_i (nI i)), (2, xm_i (xw0_obeys i I L 0 0)), (3, xm_i (xw1_obeys i I L 0 0)), (4, xm_i ((xwI_obeys i I L 0 0) 10 (6 * i + 5) 0)), (5, xm_i ((xwI_obeys i I L 0 0) 7 6 0))], [xm_i ((-12) * (xw1_obeys i I L 0 0)), xm_i (((xwI_obeys i I L 0 0) 10 (6 * i + 5) 0) - ((xwI_obeys i I L 0 0) 7 6 0))], xh_M (xwI_obeys i I L 0 0) (xwL_obeys i I L 0 0), 0, 0)) 6 rfl ?_
        refine xK.icmp rfl (fun (h4 : (((xwI_obeys i I L 0 0) 10 (6 * i + 5) 0) - ((xwI_obeys i I L 0 0) 7 6 0)) ≤ ((-12) * (xw1_obeys i I L 0 0))) => ?_) (fun (h4 : ¬ (((xwI_obeys i I L 0 0) 10 (6 * i + 5) 0) - ((xwI_obeys i I L 0 0) 7 6 0)) ≤ ((-12) * (xw1_obeys i I L 0 0))) => ?_)
        · skip
          refine xK.run (q := (332, [(0, xm_r 5 0), (1, xm_i (nI i)), (2, xm_i (xw0_obeys i I L 0 0)), (3, xm_i (xw1_obeys i I L 0 0)), (4, xm_i ((-12) * (xw1_obeys i I L 0 0))), (5, xm_i ((xwI_obeys i I L 0 0) 7 6 0))], [xm_i ((-12) * (xw1_obeys i I L 0 0)), xm_i ((6 * (nI i)) + 5), xm_r 10 0], xh_M (xwI_obeys i I L 0 0) (xwL_obeys i I L 0 0), 0, 0)) 12 rfl ?_
          refine xK.iast' rfl rfl (xh_ix6 hi (c := 5) (by decide)) ?_
          rw [show xfI_X5_obey I L i = (xm_up (xwI_obeys i I L 0 0) 10 (6 * i + 5) 0 ((-12) * (xw1_obeys i I L 0 0))) from by unfold xfI_X5_obey; rw [if_pos h1, if_neg h2, if_neg h3, if_pos h4]]
          rw [show xfL_X5_obey I L i = (xwL_obeys i I L 0 0) from by unfold xfL_X5_obey; rw [if_pos h1, if_neg h2, if_neg h3, if_pos h4]]
          exact xK.ret rfl ⟨rfl, rfl⟩
        · skip
          refine xK.run (q := (332, [(0, xm_r 5 0), (1, xm_i (nI i)), (2, xm_i (xw0_obeys i I L 0 0)), (3, xm_i (xw1_obeys i I L 0 0)), (4, xm_i (((xwI_obeys i I L 0 0) 10 (6 * i + 5) 0) - ((xwI_obeys i I L 0 0) 7 6 0))), (5, xm_i ((xwI_obeys i I L 0 0) 7 6 0))], [xm_i (((xwI_obeys i I L 0 0) 10 (6 * i + 5) 0) - ((xwI_obeys i I L 0 0) 7 6 0)), xm_i ((6 * (nI i)) + 5), xm_r 10 0], xh_M (xwI_obeys i I L 0 0) (xwL_obeys i I L 0 0), 0, 0)) 13 rfl ?_
          refine xK.iast' rfl rfl (xh_ix6 hi (c := 5) (by decide)) ?_
          rw [show xfI_X5_obey I L i = (xm_up (xwI_obeys i I L 0 0) 10 (6 * i + 5) 0 (((xwI_obeys i I L 0 0) 10 (6 * i + 5) 0) - ((xwI_obeys i I L 0 0) 7 6 0))) from by unfold xfI_X5_obey; rw [if_pos h1, if_neg h2, if_neg h3, if_neg h4]]
          rw [show xfL_X5_obey I L i = (xwL_obeys i I L 0 0) from by unfold xfL_X5_obey; rw [if_pos h1, if_neg h2, if_neg h3, if_neg h4]]
          exact xK.ret rfl ⟨rfl, rfl⟩
  · skip
    refine xK.run (q := (190, [(0, xm_r 5 0), (1, xm_i (nI i)), (2, xm_i (xw0_obeys i I L 0 0)), (3, xm_i (xw1_obeys i I L 0 0)), (4, xm_i ((xwI_obeys i I L 0 0) 10 (6 * i + 5) 0)), (5, xm_i ((xwI_obeys i I L 0 0) 7 6 0))], [xm_i (xw1_obeys i I L 0 0)], xh_M (xwI_obeys i I L 0 0) (xwL_obeys i I L 0 0), 0, 0)) 1 rfl ?_
    refine xK.ifI rfl (fun (h5 : (xw1_obeys i I L 0 0) ≤ 0) => ?_) (fun (h5 : ¬ (xw1_obeys i I L 0 0) ≤ 0) => ?_)
    · skip
      refine xK.run (q := (240, [(0, xm_r 5 0), (1, xm_i (nI i)), (2, xm_i (xw0_obeys i I L 0 0)), (3, xm_i (xw1_obeys i I L 0 0)), (4, xm_i ((xwI_obeys i I L 0 0) 10 (6 * i + 5) 0)), (5, xm_i ((xwI_obeys i I L 0 0) 7 6 0))], [xm_i (xw0_obeys i I L 0 0)], xh_M (xwI_obeys i I L 0 0) (xwL_obeys i I L 0 0), 0, 0)) 1 rfl ?_
      refine xK.ifI rfl (fun h9 => absurd h9 h1) (fun _ => ?_)
      refine xK.run (q := (249, [(0, xm_r 5 0), (1, xm_i (nI i)), (2, xm_i (xw0_obeys i I L 0 0)), (3, xm_i (xw1_obeys i I L 0 0)), (4, xm_i ((xwI_obeys i I L 0 0) 10 (6 * i + 5) 0)), (5, xm_i ((xwI_obeys i I L 0 0) 7 6 0))], [xm_i (12 * (xw0_obeys i I L 0 0)), xm_i ((xwI_obeys i I L 0 0) 10 (6 * i + 5) 0)], xh_M (xwI_obeys i I L 0 0) (xwL_obeys i I L 0 0), 0, 0)) 4 rfl ?_
      refine xK.icmp rfl (fun (h6 : (12 * (xw0_obeys i I L 0 0)) ≤ ((xwI_obeys i I L 0 0) 10 (6 * i + 5) 0)) => ?_) (fun (h6 : ¬ (12 * (xw0_obeys i I L 0 0)) ≤ ((xwI_obeys i I L 0 0) 10 (6 * i + 5) 0)) => ?_)
      · skip
        refine xK.run (q := (282, [(0, xm_r 5 0), (1, xm_i (nI i)), (2, xm_i (xw0_obeys i I L 0 0)), (3, xm_i (xw1_obeys i I L 0 0)), (4, xm_i ((xwI_obeys i I L 0 0) 10 (6 * i + 5) 0)), (5, xm_i ((xwI_obeys i I L 0 0) 7 6 0))], [xm_i (xw1_obeys i I L 0 0)], xh_M (xwI_obeys i I L 0 0) (xwL_obeys i I L 0 0), 0, 0)) 1 rfl ?_
        refine xK.ifI rfl (fun _ => ?_) (fun h9 => absurd h5 h9)
        refine xK.run (q := (332, [(0, xm_r 5 0), (1, xm_i (nI i)), (2, xm_i (xw0_obeys i I L 0 0)), (3, xm_i (xw1_obeys i I L 0 0)), (4, xm_i ((xwI_obeys i I L 0 0) 10 (6 * i + 5) 0)), (5, xm_i ((xwI_obeys i I L 0 0) 7 6 0))], [xm_i ((xwI_obeys i I L 0 0) 10 (6 * i + 5) 0), xm_i ((6 * (nI i)) + 5), xm_r 10 0], xh_M (xwI_obeys i I L 0 0) (xwL_obeys i I L 0 0), 0, 0)) 8 rfl ?_
        refine xK.iast' rfl rfl (xh_ix6 hi (c := 5) (by decide)) ?_
        rw [show xfI_X5_obey I L i = (xm_up (xwI_obeys i I L 0 0) 10 (6 * i + 5) 0 ((xwI_obeys i I L 0 0) 10 (6 * i + 5) 0)) from by unfold xfI_X5_obey; rw [if_neg h1, if_pos h5, if_pos h6]]
        rw [show xfL_X5_obey I L i = (xwL_obeys i I L 0 0) from by unfold xfL_X5_obey; rw [if_neg h1, if_pos h5, if_pos h6]]
        exact xK.ret rfl ⟨rfl, rfl⟩
      · skip
        refine xK.run (q := (261, [(0, xm_r 5 0), (1, xm_i (nI i)), (2, xm_i (xw0_obeys i I L 0 0)), (3, xm_i (xw1_obeys i I L 0 0)), (4, xm_i ((xwI_obeys i I L 0 0) 10 (6 * i + 5) 0)), (5, xm_i ((xwI_obeys i I L 0 0) 7 6 0))], [xm_i (12 * (xw0_obeys i I L 0 0)), xm_i (((xwI_obeys i I L 0 0) 10 (6 * i + 5) 0) + ((xwI_obeys i I L 0 0) 7 6 0))], xh_M (xwI_obeys i I L 0 0) (xwL_obeys i I L 0 0), 0, 0)) 6 rfl ?_
        refine xK.icmp rfl (fun (h7 : (12 * (xw0_obeys i I L 0 0)) ≤ (((xwI_obeys i I L 0 0) 10 (6 * i + 5) 0) + ((xwI_obeys i I L 0 0) 7 6 0))) => ?_) (fun (h7 : ¬ (12 * (xw0_obeys i I L 0 0)) ≤ (((xwI_obeys i I L 0 0) 10 (6 * i + 5) 0) + ((xwI_obeys i I L 0 0) 7 6 0))) => ?_)
        · skip
          refine xK.run (q := (332, [(0, xm_r 5 0), (1, xm_i (nI i)), (2, xm_i (xw0_obeys i I L 0 0)), (3, xm_i (xw1_obeys i I L 0 0)), (4, xm_i (12 * (xw0_obeys i I L 0 0))), (5, xm_i ((xwI_obeys i I L 0 0) 7 6 0))], [xm_i (12 * (xw0_obeys i I L 0 0)), xm_i ((6 * (nI i)) + 5), xm_r 10 0], xh_M (xwI_obeys i I L 0 0) (xwL_obeys i I L 0 0), 0, 0)) 13 rfl ?_
          refine xK.iast' rfl rfl (xh_ix6 hi (c := 5) (by decide)) ?_
          rw [show xfI_X5_obey I L i = (xm_up (xwI_obeys i I L 0 0) 10 (6 * i + 5) 0 (12 * (xw0_obeys i I L 0 0))) from by unfold xfI_X5_obey; rw [if_neg h1, if_pos h5, if_neg h6, if_pos h7]]
          rw [show xfL_X5_obey I L i = (xwL_obeys i I L 0 0) from by unfold xfL_X5_obey; rw [if_neg h1, if_pos h5, if_neg h6, if_pos h7]]
          exact xK.ret rfl ⟨rfl, rfl⟩
        · skip
          refine xK.run (q := (332, [(0, xm_r 5 0), (1, xm_i (nI i)), (2, xm_i (xw0_obeys i I L 0 0)), (3, xm_i (xw1_obeys i I L 0 0)), (4, xm_i (((xwI_obeys i I L 0 0) 10 (6 * i + 5) 0) + ((xwI_obeys i I L 0 0) 7 6 0))), (5, xm_i ((xwI_obeys i I L 0 0) 7 6 0))], [xm_i (((xwI_obeys i I L 0 0) 10 (6 * i + 5) 0) + ((xwI_obeys i I L 0 0) 7 6 0)), xm_i ((6 * (nI i)) + 5), xm_r 10 0], xh_M (xwI_obeys i I L 0 0) (xwL_obeys i I L 0 0), 0, 0)) 14 rfl ?_
          refine xK.iast' rfl rfl (xh_ix6 hi (c := 5) (by decide)) ?_
          rw [show xfI_X5_obey I L i = (xm_up (xwI_obeys i I L 0 0) 10 (6 * i + 5) 0 (((xwI_obeys i I L 0 0) 10 (6 * i + 5) 0) + ((xwI_obeys i I L 0 0) 7 6 0))) from by unfold xfI_X5_obey; rw [if_neg h1, if_pos h5, if_neg h6, if_neg h7]]
          rw [show xfL_X5_obey I L i = (xwL_obeys i I L 0 0) from by unfold xfL_X5_obey; rw [if_neg h1, if_pos h5, if_neg h6, if_neg h7]]
          exact xK.ret rfl ⟨rfl, rfl⟩
    · skip
      refine xK.run (q := (195, [(0, xm_r 5 0), (1, xm_i (nI i)), (2, xm_i (xw0_obeys i I L 0 0)), (3, xm_i (xw1_obeys i I L 0 0)), (4, xm_i ((xwI_obeys i I L 0 0) 10 (6 * i + 5) 0)), (5, xm_i ((xwI_obeys i I L 0 0) 7 6 0))], [xm_i ((xwI_obeys i I L 0 0) 10 (6 * i + 5) 0)], xh_M (xwI_obeys i I L 0 0) (xwL_obeys i I L 0 0), 0, 0)) 1 rfl ?_
      refine xK.ifI rfl (fun (h8 : ((xwI_obeys i I L 0 0) 10 (6 * i + 5) 0) ≤ 0) => ?_) (fun (h8 : ¬ ((xwI_obeys i I L 0 0) 10 (6 * i + 5) 0) ≤ 0) => ?_)
      · skip
        refine xK.run (q := (222, [(0, xm_r 5 0), (1, xm_i (nI i)), (2, xm_i (xw0_obeys i I L 0 0)), (3, xm_i (xw1_obeys i I L 0 0)), (4, xm_i ((xwI_obeys i I L 0 0) 10 (6 * i + 5) 0)), (5, xm_i ((xwI_obeys i I L 0 0) 7 6 0))], [xm_i (-((xwI_obeys i I L 0 0) 7 6 0)), xm_i ((xwI_obeys i I L 0 0) 10 (6 * i + 5) 0)], xh_M (xwI_obeys i I L 0 0) (xwL_obeys i I L 0 0), 0, 0)) 3 rfl ?_
        refine xK.icmp rfl (fun (h9 : (-((xwI_obeys i I L 0 0) 7 6 0)) ≤ ((xwI_obeys i I L 0 0) 10 (6 * i + 5) 0)) => ?_) (fun (h9 : ¬ (-((xwI_obeys i I L 0 0) 7 6 0)) ≤ ((xwI_obeys i I L 0 0) 10 (6 * i + 5) 0)) => ?_)
        · skip
          refine xK.run (q := (332, [(0, xm_r 5 0), (1, xm_i (nI i)), (2, xm_i (xw0_obeys i I L 0 0)), (3, xm_i (xw1_obeys i I L 0 0)), (4, xm_i 0), (5, xm_i ((xwI_obeys i I L 0 0) 7 6 0))], [xm_i 0, xm_i ((6 * (nI i)) + 5), xm_r 10 0], xh_M (xwI_obeys i I L 0 0) (xwL_obeys i I L 0 0), 0, 0)) 11 rfl ?_
          refine xK.iast' rfl rfl (xh_ix6 hi (c := 5) (by decide)) ?_
          rw [show xfI_X5_obey I L i = (xm_up (xwI_obeys i I L 0 0) 10 (6 * i + 5) 0 0) from by unfold xfI_X5_obey; rw [if_neg h1, if_neg h5, if_pos h8, if_pos h9]]
          rw [show xfL_X5_obey I L i = (xwL_obeys i I L 0 0) from by unfold xfL_X5_obey; rw [if_neg h1, if_neg h5, if_pos h8, if_pos h9]]
          exact xK.ret rfl ⟨rfl, rfl⟩
        · skip
          refine xK.run (q := (332, [(0, xm_r 5 0), (1, xm_i (nI i)), (2, xm_i (xw0_obeys i I L 0 0)), (3, xm_i (xw1_obeys i I L 0 0)), (4, xm_i (((xwI_obeys i I L 0 0) 10 (6 * i + 5) 0) + ((xwI_obeys i I L 0 0) 7 6 0))), (5, xm_i ((xwI_obeys i I L 0 0) 7 6 0))], [xm_i (((xwI_obeys i I L 0 0) 10 (6 * i + 5) 0) + ((xwI_obeys i I L 0 0) 7 6 0)), xm_i ((6 * (nI i)) + 5), xm_r 10 0], xh_M (xwI_obeys i I L 0 0) (xwL_obeys i I L 0 0), 0, 0)) 14 rfl ?_
          refine xK.iast' rfl rfl (xh_ix6 hi (c := 5) (by decide)) ?_
          rw [show xfI_X5_obey I L i = (xm_up (xwI_obeys i I L 0 0) 10 (6 * i + 5) 0 (((xwI_obeys i I L 0 0) 10 (6 * i + 5) 0) + ((xwI_obeys i I L 0 0) 7 6 0))) from by unfold xfI_X5_obey; rw [if_neg h1, if_neg h5, if_pos h8, if_neg h9]]
          rw [show xfL_X5_obey I L i = (xwL_obeys i I L 0 0) from by unfold xfL_X5_obey; rw [if_neg h1, if_neg h5, if_pos h8, if_neg h9]]
          exact xK.ret rfl ⟨rfl, rfl⟩
      · skip
        refine xK.run (q := (202, [(0, xm_r 5 0), (1, xm_i (nI i)), (2, xm_i (xw0_obeys i I L 0 0)), (3, xm_i (xw1_obeys i I L 0 0)), (4, xm_i ((xwI_obeys i I L 0 0) 10 (6 * i + 5) 0)), (5, xm_i ((xwI_obeys i I L 0 0) 7 6 0))], [xm_i ((xwI_obeys i I L 0 0) 7 6 0), xm_i ((xwI_obeys i I L 0 0) 10 (6 * i + 5) 0)], xh_M (xwI_obeys i I L 0 0) (xwL_obeys i I L 0 0), 0, 0)) 2 rfl ?_
        refine xK.icmp rfl (fun (h10 : ((xwI_obeys i I L 0 0) 10 (6 * i + 5) 0) ≤ ((xwI_obeys i I L 0 0) 7 6 0)) => ?_) (fun (h10 : ¬ ((xwI_obeys i I L 0 0) 10 (6 * i + 5) 0) ≤ ((xwI_obeys i I L 0 0) 7 6 0)) => ?_)
        · skip
          refine xK.run (q := (332, [(0, xm_r 5 0), (1, xm_i (nI i)), (2, xm_i (xw0_obeys i I L 0 0)), (3, xm_i (xw1_obeys i I L 0 0)), (4, xm_i 0), (5, xm_i ((xwI_obeys i I L 0 0) 7 6 0))], [xm_i 0, xm_i ((6 * (nI i)) + 5), xm_r 10 0], xh_M (xwI_obeys i I L 0 0) (xwL_obeys i I L 0 0), 0, 0)) 12 rfl ?_
          refine xK.iast' rfl rfl (xh_ix6 hi (c := 5) (by decide)) ?_
          rw [show xfI_X5_obey I L i = (xm_up (xwI_obeys i I L 0 0) 10 (6 * i + 5) 0 0) from by unfold xfI_X5_obey; rw [if_neg h1, if_neg h5, if_neg h8, if_pos h10]]
          rw [show xfL_X5_obey I L i = (xwL_obeys i I L 0 0) from by unfold xfL_X5_obey; rw [if_neg h1, if_neg h5, if_neg h8, if_pos h10]]
          exact xK.ret rfl ⟨rfl, rfl⟩
        · skip
          refine xK.run (q := (332, [(0, xm_r 5 0), (1, xm_i (nI i)), (2, xm_i (xw0_obeys i I L 0 0)), (3, xm_i (xw1_obeys i I L 0 0)), (4, xm_i (((xwI_obeys i I L 0 0) 10 (6 * i + 5) 0) - ((xwI_obeys i I L 0 0) 7 6 0))), (5, xm_i ((xwI_obeys i I L 0 0) 7 6 0))], [xm_i (((xwI_obeys i I L 0 0) 10 (6 * i + 5) 0) - ((xwI_obeys i I L 0 0) 7 6 0)), xm_i ((6 * (nI i)) + 5), xm_r 10 0], xh_M (xwI_obeys i I L 0 0) (xwL_obeys i I L 0 0), 0, 0)) 14 rfl ?_
          refine xK.iast' rfl rfl (xh_ix6 hi (c := 5) (by decide)) ?_
          rw [show xfI_X5_obey I L i = (xm_up (xwI_obeys i I L 0 0) 10 (6 * i + 5) 0 (((xwI_obeys i I L 0 0) 10 (6 * i + 5) 0) - ((xwI_obeys i I L 0 0) 7 6 0))) from by unfold xfI_X5_obey; rw [if_neg h1, if_neg h5, if_neg h8, if_neg h10]]
          rw [show xfL_X5_obey I L i = (xwL_obeys i I L 0 0) from by unfold xfL_X5_obey; rw [if_neg h1, if_neg h5, if_neg h8, if_neg h10]]
          exact xK.ret rfl ⟨rfl, rfl⟩
set_option linter.unusedVariables false in
def xg_plac (i : Nat) : Nat → Nat → xh_I → xh_L → xh_I × xh_L
  | 0, j, I, L => (I, L)
  | n + 1, j, I, L => if (nI j) = (nI i) then (xg_plac i n (j + 1) I L) else (if (I 8 j 0) = 0 then (xg_plac i n (j + 1) I L) else (xg_plac i n (j + 1) (xfI_X5_measure (xm_up I 16 (xh_p6 i j) 0 2147483647) (xm_up L 15 (xh_p6 i j) 0 9223372036854775807) i j) (xfL_X5_measure (xm_up I 16 (xh_p6 i j) 0 2147483647) (xm_up L 15 (xh_p6 i j) 0 9223372036854775807) i j)))
set_option maxHeartbeats 4000000 in
set_option maxRecDepth 100000 in
theorem xl_plac (d : Nat) (i : Nat) (hi : i < 6) {E : Nat → xm_S → Prop} (hE : xm_Ei E) : ∀ (n j : Nat), j + n = 6 → ∀ (I : xh_I) (L : xh_L) , xK (d + 2) xt_X5_place 218 ([(0, xm_r 5 0), (1, xm_i (nI i)), (5, xm_i 6)], [], xh_M (xg_plac i n j I L ).1 (xg_plac i n j I L ).2, 0, 0) E → xK (d + 2) xt_X5_place 155 ([(0, xm_r 5 0), (1, xm_i (nI i)), (5, xm_i (nI j))], [], xh_M I L, 0, 0) E := by
  have hmo := xmt_X5_place
  intro n
  induction n with
  | zero =>
    intro j hj I L  hk
    have hjN : j = 6 := by omega
    subst hjN
    refine xK.run (q := (159, ([(0, xm_r 5 0), (1, xm_i (nI i)), (5, xm_i (nI 6))], [xm_i 6, xm_i (nI 6)], xh_M I L, 0, 0))) 2 rfl ?_
    exact xK.icmp rfl (fun _ => hk) (fun h9 => absurd (by decide) h9)
  | succ n ih =>
    intro j hj I L  hk
    have hj8 : j < 6 := by omega
    have hj9 : ¬ (6 : Int32) ≤ nI j := nI_ge (b := 6) hj8 (by decide)
    refine xK.run (q := (159, [(0, xm_r 5 0), (1, xm_i (nI i)), (5, xm_i (nI j))], [xm_i 6, xm_i (nI j)], xh_M I L, 0, 0)) 2 rfl ?_
    refine xK.icmp rfl (fun h9 => absurd h9 hj9) (fun _ => ?_)
    refine xK.run (q := (165, [(0, xm_r 5 0), (1, xm_i (nI i)), (5, xm_i (nI j))], [xm_i (nI i), xm_i (nI j)], xh_M I L, 0, 0)) 2 rfl ?_
    refine xK.icmp rfl (fun (h1 : (nI j) = (nI i)) => ?_) (fun (h1 : ¬ (nI j) = (nI i)) => ?_)
    · skip
      refine xK.run (q := (155, [(0, xm_r 5 0), (1, xm_i (nI i)), (5, xm_i ((nI j) + 1))], [], xh_M I L, 0, 0)) 2 rfl ?_
      refine xK.forget (a := [(0, xm_r 5 0), (1, xm_i (nI i)), (5, xm_i ((nI j) + 1))]) hmo hE (of_decide_eq_true rfl) ⟨rfl, rfl, rfl, trivial⟩ ?_
      rw [nI_1 j]
      refine ih (j + 1) (by omega) I L ?_
      rw [show xg_plac i (n + 1) j I L  = xg_plac i n (j + 1) I L from by rw [xg_plac]; rw [if_pos h1]] at hk
      exact hk
    · skip
      refine xK.run (q := (174, [(0, xm_r 5 0), (1, xm_i (nI i)), (5, xm_i (nI j))], [xm_i (nI j), xm_r 8 0], xh_M I L, 0, 0)) 3 rfl ?_
      refine xK.zald' rfl rfl (xh_ix_nI (N := 6) hj8 (by decide)) ?_
      refine xK.ifI rfl (fun (h2 : (I 8 j 0) = 0) => ?_) (fun (h2 : ¬ (I 8 j 0) = 0) => ?_)
      · skip
        refine xK.run (q := (155, [(0, xm_r 5 0), (1, xm_i (nI i)), (5, xm_i ((nI j) + 1))], [], xh_M I L, 0, 0)) 2 rfl ?_
        refine xK.forget (a := [(0, xm_r 5 0), (1, xm_i (nI i)), (5, xm_i ((nI j) + 1))]) hmo hE (of_decide_eq_true rfl) ⟨rfl, rfl, rfl, trivial⟩ ?_
        rw [nI_1 j]
        refine ih (j + 1) (by omega) I L ?_
        rw [show xg_plac i (n + 1) j I L  = xg_plac i n (j + 1) I L from by rw [xg_plac]; rw [if_neg h1, if_pos h2]] at hk
        exact hk
      · skip
        refine xK.run (q := (185, [(0, xm_r 5 0), (1, xm_i (nI i)), (5, xm_i (nI j))], [xm_i (nI j), xm_i (nI i), xm_r 15 0], xh_M I L, 0, 0)) 4 rfl ?_
        refine xK.call [xm_i (nI i), xm_i (nI j)] (xd_X5_pairOf (d + 1) I L (nI i) (nI j)) rfl rfl rfl (Or.inl rfl) (Nat.le_of_ble_eq_true rfl) ?_
        refine xK.run (q := (191, [(0, xm_r 5 0), (1, xm_i (nI i)), (5, xm_i (nI j))], [xm_l 9223372036854775807, xm_i (xf_X5_pairOf (nI i) (nI j)), xm_r 15 0], xh_M I L, 0, 0)) 1 rfl ?_
        refine xK.last' rfl rfl (xh_p6_ix hi hj8) ?_
        refine xK.run (q := (199, [(0, xm_r 5 0), (1, xm_i (nI i)), (5, xm_i (nI j))], [xm_i (nI j), xm_i (nI i), xm_r 16 0], xh_M I (xm_up L 15 (xh_p6 i j) 0 9223372036854775807), 0, 0)) 4 rfl ?_
        refine xK.call [xm_i (nI i), xm_i (nI j)] (xd_X5_pairOf (d + 1) I (xm_up L 15 (xh_p6 i j) 0 9223372036854775807) (nI i) (nI j)) rfl rfl rfl (Or.inl rfl) (Nat.le_of_ble_eq_true rfl) ?_
        refine xK.run (q := (204, [(0, xm_r 5 0), (1, xm_i (nI i)), (5, xm_i (nI j))], [xm_i 2147483647, xm_i (xf_X5_pairOf (nI i) (nI j)), xm_r 16 0], xh_M I (xm_up L 15 (xh_p6 i j) 0 9223372036854775807), 0, 0)) 1 rfl ?_
        refine xK.iast' rfl rfl (xh_p6_ix hi hj8) ?_
        refine xK.run (q := (209, [(0, xm_r 5 0), (1, xm_i (nI i)), (5, xm_i (nI j))], [xm_i (nI j), xm_i (nI i), xm_r 5 0], xh_M (xm_up I 16 (xh_p6 i j) 0 2147483647) (xm_up L 15 (xh_p6 i j) 0 9223372036854775807), 0, 0)) 3 rfl ?_
        refine xK.call [xm_r 5 0, xm_i (nI i), xm_i (nI j)] (xd_X5_measure d (xm_up I 16 (xh_p6 i j) 0 2147483647) (xm_up L 15 (xh_p6 i j) 0 9223372036854775807) i hi j hj8) rfl rfl rfl (Or.inr ⟨_, _, rfl⟩) (Nat.le_of_ble_eq_true rfl) ?_
        refine xK.run (q := (155, [(0, xm_r 5 0), (1, xm_i (nI i)), (5, xm_i ((nI j) + 1))], [], xh_M (xfI_X5_measure (xm_up I 16 (xh_p6 i j) 0 2147483647) (xm_up L 15 (xh_p6 i j) 0 9223372036854775807) i j) (xfL_X5_measure (xm_up I 16 (xh_p6 i j) 0 2147483647) (xm_up L 15 (xh_p6 i j) 0 9223372036854775807) i j), 0, 0)) 2 rfl ?_
        refine xK.forget (a := [(0, xm_r 5 0), (1, xm_i (nI i)), (5, xm_i ((nI j) + 1))]) hmo hE (of_decide_eq_true rfl) ⟨rfl, rfl, rfl, trivial⟩ ?_
        rw [nI_1 j]
        refine ih (j + 1) (by omega) (xfI_X5_measure (xm_up I 16 (xh_p6 i j) 0 2147483647) (xm_up L 15 (xh_p6 i j) 0 9223372036854775807) i j) (xfL_X5_measure (xm_up I 16 (xh_p6 i j) 0 2147483647) (xm_up L 15 (xh_p6 i j) 0 9223372036854775807) i j) ?_
        rw [show xg_plac i (n + 1) j I L  = xg_plac i n (j + 1) (xfI_X5_measure (xm_up I 16 (xh_p6 i j) 0 2147483647) (xm_up L 15 (xh_p6 i j) 0 9223372036854775807) i j) (xfL_X5_measure (xm_up I 16 (xh_p6 i j) 0 2147483647) (xm_up L 15 (xh_p6 i j) 0 9223372036854775807) i j) from by rw [xg_plac]; rw [if_neg h1, if_neg h2]] at hk
        exact hk
def xwI_plac (i : Nat) (I : xh_I) (L : xh_L)  : xh_I := (xg_plac i 6 0 I L ).1
def xwL_plac (i : Nat) (I : xh_I) (L : xh_L)  : xh_L := (xg_plac i 6 0 I L ).2
theorem xl_plac_w (d : Nat) (i : Nat) (hi : i < 6) {E : Nat → xm_S → Prop} (hE : xm_Ei E) (I : xh_I) (L : xh_L)   (hk : xK (d + 2) xt_X5_place 218 ([(0, xm_r 5 0), (1, xm_i (nI i)), (5, xm_i 6)], [], xh_M (xwI_plac i I L ) (xwL_plac i I L ), 0, 0) E) : xK (d + 2) xt_X5_place 155 ([(0, xm_r 5 0), (1, xm_i (nI i)), (5, xm_i 0)], [], xh_M I L, 0, 0) E :=
  xl_plac d i hi hE 6 0 rfl  I L   hk
