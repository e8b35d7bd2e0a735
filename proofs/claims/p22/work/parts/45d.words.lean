section
def wsL_cell : List Cond := Cond.code yL_cell cL_cell 2 (some .int) :: ([] : List Cond)
def wsL_law_o1 : List Cond := [Cond.classLink RL 7 RX10, Cond.instantiable RX10 14, Cond.initialized RX10, Cond.classLink RL 18 RX11, Cond.instantiable RX11 64, Cond.initialized RX11, Cond.constantLong RL 90 (4294967295), Cond.methodLink RL 9 yL_cell, Cond.static yL_cell, Cond.initialized RL, Cond.methodLink RL 15 yX10_init, Cond.instanceMethod yX10_init, Cond.methodLink RL 20 yX11_init, Cond.instanceMethod yX11_init, Cond.methodLink RL 21 yX10_sheet, Cond.instanceMethod yX10_sheet, Cond.selects RX10 yX10_sheet yX10_sheet, Cond.methodLink RL 25 yX11_sheet, Cond.instanceMethod yX11_sheet, Cond.selects RX11 yX11_sheet yX11_sheet, Cond.methodLink RL 26 yX10_set, Cond.instanceMethod yX10_set, Cond.selects RX10 yX10_set yX10_set, Cond.methodLink RL 29 yX11_set]
def wsL_law_o2 : List Cond := [Cond.instanceMethod yX11_set, Cond.selects RX11 yX11_set yX11_set, Cond.methodLink RL 30 yX10_copy, Cond.instanceMethod yX10_copy, Cond.selects RX10 yX10_copy yX10_copy, Cond.methodLink RL 34 yX11_copy, Cond.instanceMethod yX11_copy, Cond.selects RX11 yX11_copy yX11_copy, Cond.methodLink RL 35 yX10_drop, Cond.instanceMethod yX10_drop, Cond.selects RX10 yX10_drop yX10_drop, Cond.methodLink RL 39 yX11_drop, Cond.instanceMethod yX11_drop, Cond.selects RX11 yX11_drop yX11_drop, Cond.methodLink RL 40 yX10_hold, Cond.instanceMethod yX10_hold, Cond.methodLink RL 44 yX11_hold, Cond.instanceMethod yX11_hold, Cond.selects RX11 yX11_hold yX11_hold, Cond.methodLink RL 45 yX10_holds, Cond.instanceMethod yX10_holds, Cond.selects RX10 yX10_holds yX10_holds, Cond.methodLink RL 48 yX11_holds, Cond.instanceMethod yX11_holds]
def wsL_law_o3 : List Cond := [Cond.selects RX11 yX11_holds yX11_holds, Cond.methodLink RL 49 yX10_percent, Cond.instanceMethod yX10_percent, Cond.selects RX10 yX10_percent yX10_percent, Cond.methodLink RL 52 yX11_percent, Cond.instanceMethod yX11_percent, Cond.selects RX11 yX11_percent yX11_percent, Cond.methodLink RL 53 yX10_share, Cond.instanceMethod yX10_share, Cond.selects RX10 yX10_share yX10_share, Cond.methodLink RL 56 yX11_share, Cond.instanceMethod yX11_share, Cond.selects RX11 yX11_share yX11_share, Cond.methodLink RL 57 yX10_truly, Cond.instanceMethod yX10_truly, Cond.selects RX10 yX10_truly yX10_truly, Cond.methodLink RL 61 yX11_truly, Cond.instanceMethod yX11_truly, Cond.selects RX11 yX11_truly yX11_truly, Cond.methodLink RL 62 yX10_rings, Cond.instanceMethod yX10_rings, Cond.selects RX10 yX10_rings yX10_rings, Cond.methodLink RL 65 yX11_rings, Cond.instanceMethod yX11_rings]
def wsL_law_o4 : List Cond := [Cond.selects RX11 yX11_rings yX11_rings, Cond.methodLink RL 66 yX10_crate, Cond.instanceMethod yX10_crate, Cond.selects RX10 yX10_crate yX10_crate, Cond.methodLink RL 69 yX11_crate, Cond.instanceMethod yX11_crate, Cond.selects RX11 yX11_crate yX11_crate, Cond.methodLink RL 70 yX10_paper, Cond.instanceMethod yX10_paper, Cond.selects RX10 yX10_paper yX10_paper, Cond.methodLink RL 73 yX11_paper, Cond.instanceMethod yX11_paper, Cond.selects RX11 yX11_paper yX11_paper, Cond.methodLink RL 74 yX10_owner, Cond.instanceMethod yX10_owner, Cond.selects RX10 yX10_owner yX10_owner, Cond.methodLink RL 77 yX11_owner, Cond.instanceMethod yX11_owner, Cond.selects RX11 yX11_owner yX11_owner, Cond.methodLink RL 78 yX10_quarrels, Cond.instanceMethod yX10_quarrels, Cond.selects RX10 yX10_quarrels yX10_quarrels, Cond.methodLink RL 81 yX11_quarrels, Cond.instanceMethod yX11_quarrels]
def wsL_law_o5 : List Cond := [Cond.selects RX11 yX11_quarrels yX11_quarrels, Cond.methodLink RL 82 yX10_pledge, Cond.instanceMethod yX10_pledge, Cond.selects RX10 yX10_pledge yX10_pledge, Cond.methodLink RL 85 yX11_pledge, Cond.instanceMethod yX11_pledge, Cond.selects RX11 yX11_pledge yX11_pledge, Cond.methodLink RL 86 yX10_rank, Cond.instanceMethod yX10_rank, Cond.selects RX10 yX10_rank yX10_rank, Cond.methodLink RL 89 yX11_rank, Cond.instanceMethod yX11_rank, Cond.selects RX11 yX11_rank yX11_rank, Cond.methodLink RL 92 yX10_feed, Cond.instanceMethod yX10_feed, Cond.selects RX10 yX10_feed yX10_feed, Cond.methodLink RL 96 yX11_feed, Cond.instanceMethod yX11_feed, Cond.selects RX11 yX11_feed yX11_feed, Cond.methodLink RL 97 yX10_duties, Cond.instanceMethod yX10_duties, Cond.selects RX10 yX10_duties yX10_duties, Cond.methodLink RL 101 yX11_duties, Cond.instanceMethod yX11_duties]
def wsL_law_o6 : List Cond := [Cond.selects RX11 yX11_duties yX11_duties, Cond.methodLink RL 102 yX10_fault, Cond.instanceMethod yX10_fault, Cond.selects RX10 yX10_fault yX10_fault, Cond.methodLink RL 105 yX11_fault, Cond.instanceMethod yX11_fault, Cond.selects RX11 yX11_fault yX11_fault, Cond.methodLink RL 106 yX10_act, Cond.instanceMethod yX10_act, Cond.selects RX10 yX10_act yX10_act, Cond.methodLink RL 109 yX11_act, Cond.instanceMethod yX11_act, Cond.selects RX11 yX11_act yX11_act, Cond.methodLink RL 110 yX10_duty, Cond.instanceMethod yX10_duty, Cond.selects RX10 yX10_duty yX10_duty, Cond.methodLink RL 113 yX11_duty, Cond.instanceMethod yX11_duty, Cond.selects RX11 yX11_duty yX11_duty, Cond.methodLink RL 114 yX10_room, Cond.instanceMethod yX10_room, Cond.selects RX10 yX10_room yX10_room, Cond.methodLink RL 117 yX11_room, Cond.instanceMethod yX11_room]
def wsL_law_o7 : List Cond := [Cond.selects RX11 yX11_room yX11_room, Cond.methodLink RL 118 yX10_move, Cond.instanceMethod yX10_move, Cond.selects RX10 yX10_move yX10_move, Cond.methodLink RL 121 yX11_move, Cond.instanceMethod yX11_move, Cond.selects RX11 yX11_move yX11_move, Cond.methodLink RL 122 yX10_inside, Cond.instanceMethod yX10_inside, Cond.selects RX10 yX10_inside yX10_inside, Cond.methodLink RL 125 yX11_inside, Cond.instanceMethod yX11_inside, Cond.selects RX11 yX11_inside yX11_inside, Cond.methodLink RL 126 yX10_lot, Cond.instanceMethod yX10_lot, Cond.selects RX10 yX10_lot yX10_lot, Cond.methodLink RL 129 yX11_lot, Cond.instanceMethod yX11_lot, Cond.selects RX11 yX11_lot yX11_lot, Cond.methodLink RL 130 yX10_drawn, Cond.instanceMethod yX10_drawn, Cond.selects RX10 yX10_drawn yX10_drawn, Cond.methodLink RL 133 yX11_drawn, Cond.instanceMethod yX11_drawn]
def wsL_law_o8 : List Cond := [Cond.selects RX11 yX11_drawn yX11_drawn, Cond.methodLink RL 134 yX10_often, Cond.instanceMethod yX10_often, Cond.selects RX10 yX10_often yX10_often, Cond.methodLink RL 137 yX11_often, Cond.instanceMethod yX11_often, Cond.selects RX11 yX11_often yX11_often, Cond.methodLink RL 138 yX10_opened, Cond.instanceMethod yX10_opened, Cond.selects RX10 yX10_opened yX10_opened, Cond.methodLink RL 141 yX11_opened, Cond.instanceMethod yX11_opened, Cond.selects RX11 yX11_opened yX11_opened, Cond.methodLink RL 142 yX10_verdict, Cond.instanceMethod yX10_verdict, Cond.selects RX10 yX10_verdict yX10_verdict, Cond.methodLink RL 145 yX11_verdict, Cond.instanceMethod yX11_verdict, Cond.selects RX11 yX11_verdict yX11_verdict, Cond.methodLink RL 146 yX10_list, Cond.instanceMethod yX10_list, Cond.selects RX10 yX10_list yX10_list, Cond.methodLink RL 149 yX11_list, Cond.instanceMethod yX11_list]
def wsL_law_o9 : List Cond := [Cond.selects RX11 yX11_list yX11_list, Cond.methodLink RL 150 yX10_barred, Cond.instanceMethod yX10_barred, Cond.selects RX10 yX10_barred yX10_barred, Cond.methodLink RL 153 yX11_barred, Cond.instanceMethod yX11_barred, Cond.selects RX11 yX11_barred yX11_barred, Cond.methodLink RL 154 yX10_day, Cond.instanceMethod yX10_day, Cond.selects RX10 yX10_day yX10_day, Cond.methodLink RL 157 yX11_day, Cond.instanceMethod yX11_day, Cond.selects RX11 yX11_day yX11_day, Cond.methodLink RL 158 yX10_kind, Cond.instanceMethod yX10_kind, Cond.selects RX10 yX10_kind yX10_kind, Cond.methodLink RL 161 yX11_kind, Cond.instanceMethod yX11_kind, Cond.selects RX11 yX11_kind yX11_kind, Cond.methodLink RL 162 yX10_as, Cond.instanceMethod yX10_as, Cond.selects RX10 yX10_as yX10_as, Cond.methodLink RL 165 yX11_as, Cond.instanceMethod yX11_as]
def wsL_law_o10 : List Cond := [Cond.selects RX11 yX11_as yX11_as, Cond.methodLink RL 166 yX10_ask, Cond.instanceMethod yX10_ask, Cond.selects RX10 yX10_ask yX10_ask, Cond.methodLink RL 169 yX11_ask, Cond.instanceMethod yX11_ask, Cond.selects RX11 yX11_ask yX11_ask, Cond.methodLink RL 170 yX10_trace, Cond.instanceMethod yX10_trace, Cond.selects RX10 yX10_trace yX10_trace, Cond.methodLink RL 173 yX11_trace, Cond.instanceMethod yX11_trace, Cond.selects RX11 yX11_trace yX11_trace, Cond.methodLink RL 174 yX10_count, Cond.instanceMethod yX10_count, Cond.selects RX10 yX10_count yX10_count, Cond.methodLink RL 177 yX11_count, Cond.instanceMethod yX11_count, Cond.selects RX11 yX11_count yX11_count, Cond.methodLink RL 178 yX10_status, Cond.instanceMethod yX10_status, Cond.selects RX10 yX10_status yX10_status, Cond.methodLink RL 181 yX11_status, Cond.instanceMethod yX11_status]
def wsL_law_o11 : List Cond := [Cond.selects RX11 yX11_status yX11_status]
def wsL_law : List Cond := (((((wsL_law_o1 ++ wsL_law_o2) ++ wsL_law_o3) ++ ((wsL_law_o4 ++ wsL_law_o5) ++ wsL_law_o6)) ++ (((wsL_law_o7 ++ wsL_law_o8) ++ wsL_law_o9) ++ (wsL_law_o10 ++ wsL_law_o11))) ++ (((((((wsX100 ++ wsX110) ++ wsX90) ++ ((wsX30 ++ wsX10) ++ wsX70)) ++ (((wsX80 ++ wsX20) ++ wsX00) ++ ((wsX60 ++ wsX40) ++ wsX50))) ++ ((((wsL_cell ++ wsX10_init) ++ wsX11_init) ++ ((wsX10_sheet ++ wsX11_sheet) ++ wsX10_set)) ++ (((wsX11_set ++ wsX10_copy) ++ wsX11_copy) ++ (wsX10_drop ++ wsX11_drop)))) ++ (((((wsX10_hold ++ wsX11_hold) ++ wsX10_holds) ++ ((wsX11_holds ++ wsX10_percent) ++ wsX11_percent)) ++ (((wsX10_share ++ wsX11_share) ++ wsX10_truly) ++ ((wsX11_truly ++ wsX10_rings) ++ wsX11_rings))) ++ ((((wsX10_crate ++ wsX11_crate) ++ wsX10_paper) ++ ((wsX11_paper ++ wsX10_owner) ++ wsX11_owner)) ++ (((wsX10_quarrels ++ wsX11_quarrels) ++ wsX10_pledge) ++ (wsX11_pledge ++ wsX10_rank))))) ++ ((((((wsX11_rank ++ wsX10_feed) ++ wsX11_feed) ++ ((wsX10_duties ++ wsX11_duties) ++ wsX10_fault)) ++ (((wsX11_fault ++ wsX10_act) ++ wsX11_act) ++ ((wsX10_duty ++ wsX11_duty) ++ wsX10_room))) ++ ((((wsX11_room ++ wsX10_move) ++ wsX11_move) ++ ((wsX10_inside ++ wsX11_inside) ++ wsX10_lot)) ++ (((wsX11_lot ++ wsX10_drawn) ++ wsX11_drawn) ++ (wsX10_often ++ wsX11_often)))) ++ (((((wsX10_opened ++ wsX11_opened) ++ wsX10_verdict) ++ ((wsX11_verdict ++ wsX10_list) ++ wsX11_list)) ++ (((wsX10_barred ++ wsX11_barred) ++ wsX10_day) ++ (wsX11_day ++ wsX10_kind))) ++ ((((wsX11_kind ++ wsX10_as) ++ wsX11_as) ++ ((wsX10_ask ++ wsX11_ask) ++ wsX10_trace)) ++ (((wsX11_trace ++ wsX10_count) ++ wsX11_count) ++ (wsX10_status ++ wsX11_status)))))))
set_option maxRecDepth 20000 in
theorem it_L_cell : inT wsL_cell := it_cons (lw_mem [Cond.code yL_cell cL_cell 2 (some .int)] [(4, 197, 1)] rfl) (lw_mem [] [] rfl)
set_option maxRecDepth 20000 in
theorem wsL_law_in : ∀ w ∈ wsL_law, w ∈ lw_tbl := (it_app (it_app (it_app (it_app (it_app (lw_mem wsL_law_o1 [(1, 21, 2), (1, 1, 1), (4, 198, 2), (1, 13, 1), (7, 8, 1), (4, 195, 2), (1, 0, 1), (1, 23, 2), (4, 200, 2), (2, 123, 3), (5, 159, 3), (2, 144, 3), (5, 177, 1)] rfl) (lw_mem wsL_law_o2 [(5, 178, 2), (2, 160, 3), (5, 181, 3), (2, 167, 3), (5, 185, 3), (2, 175, 2), (5, 189, 3), (2, 199, 3), (5, 211, 2)] rfl)) (lw_mem wsL_law_o3 [(5, 213, 1), (2, 204, 3), (5, 216, 3), (2, 232, 3), (5, 224, 3), (3, 13, 3), (6, 7, 3), (3, 18, 3), (6, 11, 2)] rfl)) (it_app (it_app (lw_mem wsL_law_o4 [(6, 13, 1), (3, 23, 3), (6, 15, 3), (3, 32, 3), (6, 20, 3), (3, 51, 3), (6, 28, 3), (3, 63, 3), (6, 36, 2)] rfl) (lw_mem wsL_law_o5 [(6, 38, 1), (3, 71, 3), (6, 40, 3), (3, 79, 3), (6, 44, 3), (3, 106, 3), (6, 53, 3), (3, 114, 3), (6, 59, 2)] rfl)) (lw_mem wsL_law_o6 [(6, 61, 1), (3, 199, 3), (6, 103, 3), (3, 203, 3), (6, 107, 3), (3, 211, 3), (6, 112, 3), (3, 224, 3), (6, 120, 2)] rfl))) (it_app (it_app (it_app (lw_mem wsL_law_o7 [(6, 122, 1), (3, 229, 3), (6, 129, 3), (4, 13, 3), (6, 138, 3), (4, 20, 3), (6, 142, 3), (4, 33, 3), (6, 156, 2)] rfl) (lw_mem wsL_law_o8 [(6, 158, 1), (4, 51, 3), (6, 164, 3), (4, 55, 3), (6, 168, 3), (4, 63, 3), (6, 172, 3), (4, 86, 3), (6, 179, 2)] rfl)) (lw_mem wsL_law_o9 [(6, 181, 1), (4, 94, 3), (6, 183, 3), (4, 107, 3), (6, 192, 3), (4, 111, 3), (6, 196, 3), (4, 123, 3), (6, 208, 2)] rfl)) (it_app (lw_mem wsL_law_o10 [(6, 210, 1), (4, 130, 3), (6, 216, 3), (4, 178, 3), (6, 236, 3), (4, 182, 3), (7, 0, 3), (4, 191, 3), (7, 4, 2)] rfl) (lw_mem wsL_law_o11 [(7, 6, 1)] rfl)))) (it_app (it_app (it_app (it_app (it_app (it_app (it_app it_X100 it_X110) it_X90) (it_app (it_app it_X30 it_X10) it_X70)) (it_app (it_app (it_app it_X80 it_X20) it_X00) (it_app (it_app it_X60 it_X40) it_X50))) (it_app (it_app (it_app (it_app it_L_cell it_X10_init) it_X11_init) (it_app (it_app it_X10_sheet it_X11_sheet) it_X10_set)) (it_app (it_app (it_app it_X11_set it_X10_copy) it_X11_copy) (it_app it_X10_drop it_X11_drop)))) (it_app (it_app (it_app (it_app (it_app it_X10_hold it_X11_hold) it_X10_holds) (it_app (it_app it_X11_holds it_X10_percent) it_X11_percent)) (it_app (it_app (it_app it_X10_share it_X11_share) it_X10_truly) (it_app (it_app it_X11_truly it_X10_rings) it_X11_rings))) (it_app (it_app (it_app (it_app it_X10_crate it_X11_crate) it_X10_paper) (it_app (it_app it_X11_paper it_X10_owner) it_X11_owner)) (it_app (it_app (it_app it_X10_quarrels it_X11_quarrels) it_X10_pledge) (it_app it_X11_pledge it_X10_rank))))) (it_app (it_app (it_app (it_app (it_app (it_app it_X11_rank it_X10_feed) it_X11_feed) (it_app (it_app it_X10_duties it_X11_duties) it_X10_fault)) (it_app (it_app (it_app it_X11_fault it_X10_act) it_X11_act) (it_app (it_app it_X10_duty it_X11_duty) it_X10_room))) (it_app (it_app (it_app (it_app it_X11_room it_X10_move) it_X11_move) (it_app (it_app it_X10_inside it_X11_inside) it_X10_lot)) (it_app (it_app (it_app it_X11_lot it_X10_drawn) it_X11_drawn) (it_app it_X10_often it_X11_often)))) (it_app (it_app (it_app (it_app (it_app it_X10_opened it_X11_opened) it_X10_verdict) (it_app (it_app it_X11_verdict it_X10_list) it_X11_list)) (it_app (it_app (it_app it_X10_barred it_X11_barred) it_X10_day) (it_app it_X11_day it_X10_kind))) (it_app (it_app (it_app (it_app it_X11_kind it_X10_as) it_X11_as) (it_app (it_app it_X10_ask it_X11_ask) it_X10_trace)) (it_app (it_app (it_app it_X11_trace it_X10_count) it_X11_count) (it_app it_X10_status it_X11_status)))))))
-- wsL_law_in
end

section
theorem inX0_init_X0 : ∀ w ∈ u_ws RX0 TX0 5, w ∈ wsX0_init := fun _ h => (List.mem_cons_of_mem _ (List.mem_append_right _ h))
theorem inX1_init_X1 : ∀ w ∈ u_ws RX1 TX1 6, w ∈ wsX1_init := fun _ h => (List.mem_cons_of_mem _ (List.mem_append_right _ (List.mem_append_left _ h)))
theorem inX2_init_X2 : ∀ w ∈ u_ws RX2 TX2 15, w ∈ wsX2_init := fun _ h => (List.mem_cons_of_mem _ (List.mem_append_right _ h))
theorem inX3_init_X3 : ∀ w ∈ u_ws RX3 TX3 9, w ∈ wsX3_init := fun _ h => (List.mem_cons_of_mem _ (List.mem_append_right _ h))
theorem inX4_init_X4 : ∀ w ∈ u_ws RX4 TX4 4, w ∈ wsX4_init := fun _ h => (List.mem_cons_of_mem _ (List.mem_append_right _ h))
theorem inX5_init_X5 : ∀ w ∈ u_ws RX5 TX5 2, w ∈ wsX5_init := fun _ h => (List.mem_cons_of_mem _ (List.mem_append_right _ h))
theorem inX6_init_X6 : ∀ w ∈ u_ws RX6 TX6 5, w ∈ wsX6_init := fun _ h => (List.mem_cons_of_mem _ (List.mem_append_right _ h))
theorem inX7_init_X7 : ∀ w ∈ u_ws RX7 TX7 7, w ∈ wsX7_init := fun _ h => (List.mem_cons_of_mem _ (List.mem_append_right _ h))
theorem inX8_init_X8 : ∀ w ∈ u_ws RX8 TX8 6, w ∈ wsX8_init := fun _ h => (List.mem_cons_of_mem _ (List.mem_append_right _ h))
theorem inX9_init_X9 : ∀ w ∈ u_ws RX9 TX9 3, w ∈ wsX9_init := fun _ h => (List.mem_cons_of_mem _ (List.mem_append_right _ (List.mem_append_left _ h)))
theorem dX0_init_all0 : decode cX0_init 0 = .ok (.aload_n 0, 1) ∧ decode cX0_init 1 = .ok (.invokespecial 3, 3) ∧ decode cX0_init 4 = .ok (.aload_n 0, 1) ∧ decode cX0_init 5 = .ok (.bipush 60, 2) ∧ decode cX0_init 7 = .ok (.newarray .int, 2) ∧ decode cX0_init 9 = .ok (.putfield 9, 3) ∧ decode cX0_init 12 = .ok (.aload_n 0, 1) ∧ decode cX0_init 13 = .ok (.bipush 60, 2) ∧ decode cX0_init 15 = .ok (.newarray .int, 2) ∧ decode cX0_init 17 = .ok (.putfield 15, 3) ∧ decode cX0_init 20 = .ok (.aload_n 0, 1) ∧ decode cX0_init 21 = .ok (.bipush 60, 2) := by decide +kernel
theorem dX0_init_0 : decode cX0_init 0 = .ok (.aload_n 0, 1) := dX0_init_all0.1
theorem dX0_init_1 : decode cX0_init 1 = .ok (.invokespecial 3, 3) := dX0_init_all0.2.1
theorem dX0_init_4 : decode cX0_init 4 = .ok (.aload_n 0, 1) := dX0_init_all0.2.2.1
theorem dX0_init_5 : decode cX0_init 5 = .ok (.bipush 60, 2) := dX0_init_all0.2.2.2.1
theorem dX0_init_7 : decode cX0_init 7 = .ok (.newarray .int, 2) := dX0_init_all0.2.2.2.2.1
theorem dX0_init_9 : decode cX0_init 9 = .ok (.putfield 9, 3) := dX0_init_all0.2.2.2.2.2.1
theorem dX0_init_12 : decode cX0_init 12 = .ok (.aload_n 0, 1) := dX0_init_all0.2.2.2.2.2.2.1
theorem dX0_init_13 : decode cX0_init 13 = .ok (.bipush 60, 2) := dX0_init_all0.2.2.2.2.2.2.2.1
theorem dX0_init_15 : decode cX0_init 15 = .ok (.newarray .int, 2) := dX0_init_all0.2.2.2.2.2.2.2.2.1
theorem dX0_init_17 : decode cX0_init 17 = .ok (.putfield 15, 3) := dX0_init_all0.2.2.2.2.2.2.2.2.2.1
theorem dX0_init_20 : decode cX0_init 20 = .ok (.aload_n 0, 1) := dX0_init_all0.2.2.2.2.2.2.2.2.2.2.1
theorem dX0_init_21 : decode cX0_init 21 = .ok (.bipush 60, 2) := dX0_init_all0.2.2.2.2.2.2.2.2.2.2.2
theorem dX0_init_all1 : decode cX0_init 23 = .ok (.newarray .int, 2) ∧ decode cX0_init 25 = .ok (.putfield 18, 3) ∧ decode cX0_init 28 = .ok (.aload_n 0, 1) ∧ decode cX0_init 29 = .ok (.bipush 60, 2) ∧ decode cX0_init 31 = .ok (.newarray .int, 2) ∧ decode cX0_init 33 = .ok (.putfield 21, 3) ∧ decode cX0_init 36 = .ok (.return_, 1) := by decide +kernel
theorem dX0_init_23 : decode cX0_init 23 = .ok (.newarray .int, 2) := dX0_init_all1.1
theorem dX0_init_25 : decode cX0_init 25 = .ok (.putfield 18, 3) := dX0_init_all1.2.1
theorem dX0_init_28 : decode cX0_init 28 = .ok (.aload_n 0, 1) := dX0_init_all1.2.2.1
theorem dX0_init_29 : decode cX0_init 29 = .ok (.bipush 60, 2) := dX0_init_all1.2.2.2.1
theorem dX0_init_31 : decode cX0_init 31 = .ok (.newarray .int, 2) := dX0_init_all1.2.2.2.2.1
theorem dX0_init_33 : decode cX0_init 33 = .ok (.putfield 21, 3) := dX0_init_all1.2.2.2.2.2.1
theorem dX0_init_36 : decode cX0_init 36 = .ok (.return_, 1) := dX0_init_all1.2.2.2.2.2.2
theorem ggX1_init_J7_fill_53178 : GoodIn wsX1_init wsJ7_fill_53178 := goodIn_s (fun _ h => wm_t (wm_r (wm_r h))) Gd_J7_fill_53178
theorem gX1_init_J7_fill_53178 : GoodIn wsX1_init (va_wsS RX1 28 yJ7_fill_53178 wsJ7_fill_53178) := goodIn_S (own := RX1) (idx := 28) (y := yJ7_fill_53178) (wm_t (wm_l (wm_i 11 rfl))) (wm_t (wm_l (wm_i 12 rfl))) (wm_t (wm_l (wm_i 13 rfl))) ggX1_init_J7_fill_53178
theorem dX1_init_all0 : decode cX1_init 0 = .ok (.aload_n 0, 1) ∧ decode cX1_init 1 = .ok (.invokespecial 3, 3) ∧ decode cX1_init 4 = .ok (.aload_n 0, 1) ∧ decode cX1_init 5 = .ok (.bipush 12, 2) ∧ decode cX1_init 7 = .ok (.newarray .int, 2) ∧ decode cX1_init 9 = .ok (.putfield 9, 3) ∧ decode cX1_init 12 = .ok (.aload_n 0, 1) ∧ decode cX1_init 13 = .ok (.bipush 12, 2) ∧ decode cX1_init 15 = .ok (.newarray .int, 2) ∧ decode cX1_init 17 = .ok (.putfield 15, 3) ∧ decode cX1_init 20 = .ok (.aload_n 0, 1) ∧ decode cX1_init 21 = .ok (.bipush 12, 2) := by decide +kernel
theorem dX1_init_0 : decode cX1_init 0 = .ok (.aload_n 0, 1) := dX1_init_all0.1
theorem dX1_init_1 : decode cX1_init 1 = .ok (.invokespecial 3, 3) := dX1_init_all0.2.1
theorem dX1_init_4 : decode cX1_init 4 = .ok (.aload_n 0, 1) := dX1_init_all0.2.2.1
theorem dX1_init_5 : decode cX1_init 5 = .ok (.bipush 12, 2) := dX1_init_all0.2.2.2.1
theorem dX1_init_7 : decode cX1_init 7 = .ok (.newarray .int, 2) := dX1_init_all0.2.2.2.2.1
theorem dX1_init_9 : decode cX1_init 9 = .ok (.putfield 9, 3) := dX1_init_all0.2.2.2.2.2.1
theorem dX1_init_12 : decode cX1_init 12 = .ok (.aload_n 0, 1) := dX1_init_all0.2.2.2.2.2.2.1
theorem dX1_init_13 : decode cX1_init 13 = .ok (.bipush 12, 2) := dX1_init_all0.2.2.2.2.2.2.2.1
theorem dX1_init_15 : decode cX1_init 15 = .ok (.newarray .int, 2) := dX1_init_all0.2.2.2.2.2.2.2.2.1
theorem dX1_init_17 : decode cX1_init 17 = .ok (.putfield 15, 3) := dX1_init_all0.2.2.2.2.2.2.2.2.2.1
theorem dX1_init_20 : decode cX1_init 20 = .ok (.aload_n 0, 1) := dX1_init_all0.2.2.2.2.2.2.2.2.2.2.1
theorem dX1_init_21 : decode cX1_init 21 = .ok (.bipush 12, 2) := dX1_init_all0.2.2.2.2.2.2.2.2.2.2.2
theorem dX1_init_all1 : decode cX1_init 23 = .ok (.newarray .int, 2) ∧ decode cX1_init 25 = .ok (.putfield 18, 3) ∧ decode cX1_init 28 = .ok (.aload_n 0, 1) ∧ decode cX1_init 29 = .ok (.bipush 6, 2) ∧ decode cX1_init 31 = .ok (.newarray .int, 2) ∧ decode cX1_init 33 = .ok (.putfield 21, 3) ∧ decode cX1_init 36 = .ok (.aload_n 0, 1) ∧ decode cX1_init 37 = .ok (.bipush 6, 2) ∧ decode cX1_init 39 = .ok (.newarray .int, 2) ∧ decode cX1_init 41 = .ok (.putfield 24, 3) ∧ decode cX1_init 44 = .ok (.aload_n 0, 1) ∧ decode cX1_init 45 = .ok (.getfield 18, 3) := by decide +kernel
theorem dX1_init_23 : decode cX1_init 23 = .ok (.newarray .int, 2) := dX1_init_all1.1
theorem dX1_init_25 : decode cX1_init 25 = .ok (.putfield 18, 3) := dX1_init_all1.2.1
theorem dX1_init_28 : decode cX1_init 28 = .ok (.aload_n 0, 1) := dX1_init_all1.2.2.1
theorem dX1_init_29 : decode cX1_init 29 = .ok (.bipush 6, 2) := dX1_init_all1.2.2.2.1
theorem dX1_init_31 : decode cX1_init 31 = .ok (.newarray .int, 2) := dX1_init_all1.2.2.2.2.1
theorem dX1_init_33 : decode cX1_init 33 = .ok (.putfield 21, 3) := dX1_init_all1.2.2.2.2.2.1
theorem dX1_init_36 : decode cX1_init 36 = .ok (.aload_n 0, 1) := dX1_init_all1.2.2.2.2.2.2.1
theorem dX1_init_37 : decode cX1_init 37 = .ok (.bipush 6, 2) := dX1_init_all1.2.2.2.2.2.2.2.1
theorem dX1_init_39 : decode cX1_init 39 = .ok (.newarray .int, 2) := dX1_init_all1.2.2.2.2.2.2.2.2.1
theorem dX1_init_41 : decode cX1_init 41 = .ok (.putfield 24, 3) := dX1_init_all1.2.2.2.2.2.2.2.2.2.1
theorem dX1_init_44 : decode cX1_init 44 = .ok (.aload_n 0, 1) := dX1_init_all1.2.2.2.2.2.2.2.2.2.2.1
theorem dX1_init_45 : decode cX1_init 45 = .ok (.getfield 18, 3) := dX1_init_all1.2.2.2.2.2.2.2.2.2.2.2
theorem dX1_init_all2 : decode cX1_init 48 = .ok (.ldc 27, 2) ∧ decode cX1_init 50 = .ok (.invokestatic 28, 3) ∧ decode cX1_init 53 = .ok (.aload_n 0, 1) ∧ decode cX1_init 54 = .ok (.getfield 21, 3) ∧ decode cX1_init 57 = .ok (.iconst 4, 1) ∧ decode cX1_init 58 = .ok (.invokestatic 28, 3) ∧ decode cX1_init 61 = .ok (.aload_n 0, 1) ∧ decode cX1_init 62 = .ok (.getfield 24, 3) ∧ decode cX1_init 65 = .ok (.ldc 34, 2) ∧ decode cX1_init 67 = .ok (.invokestatic 28, 3) ∧ decode cX1_init 70 = .ok (.return_, 1) := by decide +kernel
theorem dX1_init_48 : decode cX1_init 48 = .ok (.ldc 27, 2) := dX1_init_all2.1
theorem dX1_init_50 : decode cX1_init 50 = .ok (.invokestatic 28, 3) := dX1_init_all2.2.1
theorem dX1_init_53 : decode cX1_init 53 = .ok (.aload_n 0, 1) := dX1_init_all2.2.2.1
theorem dX1_init_54 : decode cX1_init 54 = .ok (.getfield 21, 3) := dX1_init_all2.2.2.2.1
theorem dX1_init_57 : decode cX1_init 57 = .ok (.iconst 4, 1) := dX1_init_all2.2.2.2.2.1
theorem dX1_init_58 : decode cX1_init 58 = .ok (.invokestatic 28, 3) := dX1_init_all2.2.2.2.2.2.1
theorem dX1_init_61 : decode cX1_init 61 = .ok (.aload_n 0, 1) := dX1_init_all2.2.2.2.2.2.2.1
theorem dX1_init_62 : decode cX1_init 62 = .ok (.getfield 24, 3) := dX1_init_all2.2.2.2.2.2.2.2.1
theorem dX1_init_65 : decode cX1_init 65 = .ok (.ldc 34, 2) := dX1_init_all2.2.2.2.2.2.2.2.2.1
theorem dX1_init_67 : decode cX1_init 67 = .ok (.invokestatic 28, 3) := dX1_init_all2.2.2.2.2.2.2.2.2.2.1
theorem dX1_init_70 : decode cX1_init 70 = .ok (.return_, 1) := dX1_init_all2.2.2.2.2.2.2.2.2.2.2
theorem dX2_init_all0 : decode cX2_init 0 = .ok (.aload_n 0, 1) ∧ decode cX2_init 1 = .ok (.invokespecial 3, 3) ∧ decode cX2_init 4 = .ok (.aload_n 0, 1) ∧ decode cX2_init 5 = .ok (.sipush 300, 3) ∧ decode cX2_init 8 = .ok (.newarray .byte, 2) ∧ decode cX2_init 10 = .ok (.putfield 11, 3) ∧ decode cX2_init 13 = .ok (.aload_n 0, 1) ∧ decode cX2_init 14 = .ok (.bipush 12, 2) ∧ decode cX2_init 16 = .ok (.newarray .int, 2) ∧ decode cX2_init 18 = .ok (.putfield 15, 3) ∧ decode cX2_init 21 = .ok (.aload_n 0, 1) ∧ decode cX2_init 22 = .ok (.bipush 12, 2) := by decide +kernel
theorem dX2_init_0 : decode cX2_init 0 = .ok (.aload_n 0, 1) := dX2_init_all0.1
theorem dX2_init_1 : decode cX2_init 1 = .ok (.invokespecial 3, 3) := dX2_init_all0.2.1
theorem dX2_init_4 : decode cX2_init 4 = .ok (.aload_n 0, 1) := dX2_init_all0.2.2.1
theorem dX2_init_5 : decode cX2_init 5 = .ok (.sipush 300, 3) := dX2_init_all0.2.2.2.1
theorem dX2_init_8 : decode cX2_init 8 = .ok (.newarray .byte, 2) := dX2_init_all0.2.2.2.2.1
theorem dX2_init_10 : decode cX2_init 10 = .ok (.putfield 11, 3) := dX2_init_all0.2.2.2.2.2.1
theorem dX2_init_13 : decode cX2_init 13 = .ok (.aload_n 0, 1) := dX2_init_all0.2.2.2.2.2.2.1
theorem dX2_init_14 : decode cX2_init 14 = .ok (.bipush 12, 2) := dX2_init_all0.2.2.2.2.2.2.2.1
theorem dX2_init_16 : decode cX2_init 16 = .ok (.newarray .int, 2) := dX2_init_all0.2.2.2.2.2.2.2.2.1
theorem dX2_init_18 : decode cX2_init 18 = .ok (.putfield 15, 3) := dX2_init_all0.2.2.2.2.2.2.2.2.2.1
theorem dX2_init_21 : decode cX2_init 21 = .ok (.aload_n 0, 1) := dX2_init_all0.2.2.2.2.2.2.2.2.2.2.1
theorem dX2_init_22 : decode cX2_init 22 = .ok (.bipush 12, 2) := dX2_init_all0.2.2.2.2.2.2.2.2.2.2.2
theorem dX2_init_all1 : decode cX2_init 24 = .ok (.newarray .int, 2) ∧ decode cX2_init 26 = .ok (.putfield 19, 3) ∧ decode cX2_init 29 = .ok (.aload_n 0, 1) ∧ decode cX2_init 30 = .ok (.bipush 12, 2) ∧ decode cX2_init 32 = .ok (.newarray .int, 2) ∧ decode cX2_init 34 = .ok (.putfield 22, 3) ∧ decode cX2_init 37 = .ok (.aload_n 0, 1) ∧ decode cX2_init 38 = .ok (.bipush 12, 2) ∧ decode cX2_init 40 = .ok (.newarray .int, 2) ∧ decode cX2_init 42 = .ok (.putfield 25, 3) ∧ decode cX2_init 45 = .ok (.aload_n 0, 1) ∧ decode cX2_init 46 = .ok (.bipush 12, 2) := by decide +kernel
theorem dX2_init_24 : decode cX2_init 24 = .ok (.newarray .int, 2) := dX2_init_all1.1
theorem dX2_init_26 : decode cX2_init 26 = .ok (.putfield 19, 3) := dX2_init_all1.2.1
theorem dX2_init_29 : decode cX2_init 29 = .ok (.aload_n 0, 1) := dX2_init_all1.2.2.1
theorem dX2_init_30 : decode cX2_init 30 = .ok (.bipush 12, 2) := dX2_init_all1.2.2.2.1
theorem dX2_init_32 : decode cX2_init 32 = .ok (.newarray .int, 2) := dX2_init_all1.2.2.2.2.1
theorem dX2_init_34 : decode cX2_init 34 = .ok (.putfield 22, 3) := dX2_init_all1.2.2.2.2.2.1
theorem dX2_init_37 : decode cX2_init 37 = .ok (.aload_n 0, 1) := dX2_init_all1.2.2.2.2.2.2.1
theorem dX2_init_38 : decode cX2_init 38 = .ok (.bipush 12, 2) := dX2_init_all1.2.2.2.2.2.2.2.1
theorem dX2_init_40 : decode cX2_init 40 = .ok (.newarray .int, 2) := dX2_init_all1.2.2.2.2.2.2.2.2.1
theorem dX2_init_42 : decode cX2_init 42 = .ok (.putfield 25, 3) := dX2_init_all1.2.2.2.2.2.2.2.2.2.1
theorem dX2_init_45 : decode cX2_init 45 = .ok (.aload_n 0, 1) := dX2_init_all1.2.2.2.2.2.2.2.2.2.2.1
theorem dX2_init_46 : decode cX2_init 46 = .ok (.bipush 12, 2) := dX2_init_all1.2.2.2.2.2.2.2.2.2.2.2
theorem dX2_init_all2 : decode cX2_init 48 = .ok (.newarray .int, 2) ∧ decode cX2_init 50 = .ok (.putfield 28, 3) ∧ decode cX2_init 53 = .ok (.aload_n 0, 1) ∧ decode cX2_init 54 = .ok (.bipush 12, 2) ∧ decode cX2_init 56 = .ok (.newarray .int, 2) ∧ decode cX2_init 58 = .ok (.putfield 31, 3) ∧ decode cX2_init 61 = .ok (.return_, 1) := by decide +kernel
theorem dX2_init_48 : decode cX2_init 48 = .ok (.newarray .int, 2) := dX2_init_all2.1
theorem dX2_init_50 : decode cX2_init 50 = .ok (.putfield 28, 3) := dX2_init_all2.2.1
theorem dX2_init_53 : decode cX2_init 53 = .ok (.aload_n 0, 1) := dX2_init_all2.2.2.1
theorem dX2_init_54 : decode cX2_init 54 = .ok (.bipush 12, 2) := dX2_init_all2.2.2.2.1
theorem dX2_init_56 : decode cX2_init 56 = .ok (.newarray .int, 2) := dX2_init_all2.2.2.2.2.1
theorem dX2_init_58 : decode cX2_init 58 = .ok (.putfield 31, 3) := dX2_init_all2.2.2.2.2.2.1
theorem dX2_init_61 : decode cX2_init 61 = .ok (.return_, 1) := dX2_init_all2.2.2.2.2.2.2
theorem dX3_init_all0 : decode cX3_init 0 = .ok (.aload_n 0, 1) ∧ decode cX3_init 1 = .ok (.invokespecial 3, 3) ∧ decode cX3_init 4 = .ok (.aload_n 0, 1) ∧ decode cX3_init 5 = .ok (.bipush 40, 2) ∧ decode cX3_init 7 = .ok (.newarray .int, 2) ∧ decode cX3_init 9 = .ok (.putfield 9, 3) ∧ decode cX3_init 12 = .ok (.aload_n 0, 1) ∧ decode cX3_init 13 = .ok (.bipush 40, 2) ∧ decode cX3_init 15 = .ok (.newarray .int, 2) ∧ decode cX3_init 17 = .ok (.putfield 15, 3) ∧ decode cX3_init 20 = .ok (.aload_n 0, 1) ∧ decode cX3_init 21 = .ok (.bipush 40, 2) := by decide +kernel
theorem dX3_init_0 : decode cX3_init 0 = .ok (.aload_n 0, 1) := dX3_init_all0.1
theorem dX3_init_1 : decode cX3_init 1 = .ok (.invokespecial 3, 3) := dX3_init_all0.2.1
theorem dX3_init_4 : decode cX3_init 4 = .ok (.aload_n 0, 1) := dX3_init_all0.2.2.1
theorem dX3_init_5 : decode cX3_init 5 = .ok (.bipush 40, 2) := dX3_init_all0.2.2.2.1
theorem dX3_init_7 : decode cX3_init 7 = .ok (.newarray .int, 2) := dX3_init_all0.2.2.2.2.1
theorem dX3_init_9 : decode cX3_init 9 = .ok (.putfield 9, 3) := dX3_init_all0.2.2.2.2.2.1
theorem dX3_init_12 : decode cX3_init 12 = .ok (.aload_n 0, 1) := dX3_init_all0.2.2.2.2.2.2.1
theorem dX3_init_13 : decode cX3_init 13 = .ok (.bipush 40, 2) := dX3_init_all0.2.2.2.2.2.2.2.1
theorem dX3_init_15 : decode cX3_init 15 = .ok (.newarray .int, 2) := dX3_init_all0.2.2.2.2.2.2.2.2.1
theorem dX3_init_17 : decode cX3_init 17 = .ok (.putfield 15, 3) := dX3_init_all0.2.2.2.2.2.2.2.2.2.1
theorem dX3_init_20 : decode cX3_init 20 = .ok (.aload_n 0, 1) := dX3_init_all0.2.2.2.2.2.2.2.2.2.2.1
theorem dX3_init_21 : decode cX3_init 21 = .ok (.bipush 40, 2) := dX3_init_all0.2.2.2.2.2.2.2.2.2.2.2
theorem dX3_init_all1 : decode cX3_init 23 = .ok (.newarray .int, 2) ∧ decode cX3_init 25 = .ok (.putfield 18, 3) ∧ decode cX3_init 28 = .ok (.aload_n 0, 1) ∧ decode cX3_init 29 = .ok (.bipush 40, 2) ∧ decode cX3_init 31 = .ok (.newarray .int, 2) ∧ decode cX3_init 33 = .ok (.putfield 21, 3) ∧ decode cX3_init 36 = .ok (.aload_n 0, 1) ∧ decode cX3_init 37 = .ok (.sipush 200, 3) ∧ decode cX3_init 40 = .ok (.newarray .int, 2) ∧ decode cX3_init 42 = .ok (.putfield 24, 3) ∧ decode cX3_init 45 = .ok (.aload_n 0, 1) ∧ decode cX3_init 46 = .ok (.sipush 200, 3) := by decide +kernel
theorem dX3_init_23 : decode cX3_init 23 = .ok (.newarray .int, 2) := dX3_init_all1.1
theorem dX3_init_25 : decode cX3_init 25 = .ok (.putfield 18, 3) := dX3_init_all1.2.1
theorem dX3_init_28 : decode cX3_init 28 = .ok (.aload_n 0, 1) := dX3_init_all1.2.2.1
theorem dX3_init_29 : decode cX3_init 29 = .ok (.bipush 40, 2) := dX3_init_all1.2.2.2.1
theorem dX3_init_31 : decode cX3_init 31 = .ok (.newarray .int, 2) := dX3_init_all1.2.2.2.2.1
theorem dX3_init_33 : decode cX3_init 33 = .ok (.putfield 21, 3) := dX3_init_all1.2.2.2.2.2.1
theorem dX3_init_36 : decode cX3_init 36 = .ok (.aload_n 0, 1) := dX3_init_all1.2.2.2.2.2.2.1
theorem dX3_init_37 : decode cX3_init 37 = .ok (.sipush 200, 3) := dX3_init_all1.2.2.2.2.2.2.2.1
theorem dX3_init_40 : decode cX3_init 40 = .ok (.newarray .int, 2) := dX3_init_all1.2.2.2.2.2.2.2.2.1
theorem dX3_init_42 : decode cX3_init 42 = .ok (.putfield 24, 3) := dX3_init_all1.2.2.2.2.2.2.2.2.2.1
theorem dX3_init_45 : decode cX3_init 45 = .ok (.aload_n 0, 1) := dX3_init_all1.2.2.2.2.2.2.2.2.2.2.1
theorem dX3_init_46 : decode cX3_init 46 = .ok (.sipush 200, 3) := dX3_init_all1.2.2.2.2.2.2.2.2.2.2.2
theorem dX3_init_all2 : decode cX3_init 49 = .ok (.newarray .int, 2) ∧ decode cX3_init 51 = .ok (.putfield 27, 3) ∧ decode cX3_init 54 = .ok (.aload_n 0, 1) ∧ decode cX3_init 55 = .ok (.bipush 20, 2) ∧ decode cX3_init 57 = .ok (.newarray .int, 2) ∧ decode cX3_init 59 = .ok (.putfield 30, 3) ∧ decode cX3_init 62 = .ok (.aload_n 0, 1) ∧ decode cX3_init 63 = .ok (.bipush 10, 2) ∧ decode cX3_init 65 = .ok (.newarray .int, 2) ∧ decode cX3_init 67 = .ok (.putfield 33, 3) ∧ decode cX3_init 70 = .ok (.return_, 1) := by decide +kernel
theorem dX3_init_49 : decode cX3_init 49 = .ok (.newarray .int, 2) := dX3_init_all2.1
theorem dX3_init_51 : decode cX3_init 51 = .ok (.putfield 27, 3) := dX3_init_all2.2.1
theorem dX3_init_54 : decode cX3_init 54 = .ok (.aload_n 0, 1) := dX3_init_all2.2.2.1
theorem dX3_init_55 : decode cX3_init 55 = .ok (.bipush 20, 2) := dX3_init_all2.2.2.2.1
theorem dX3_init_57 : decode cX3_init 57 = .ok (.newarray .int, 2) := dX3_init_all2.2.2.2.2.1
theorem dX3_init_59 : decode cX3_init 59 = .ok (.putfield 30, 3) := dX3_init_all2.2.2.2.2.2.1
theorem dX3_init_62 : decode cX3_init 62 = .ok (.aload_n 0, 1) := dX3_init_all2.2.2.2.2.2.2.1
theorem dX3_init_63 : decode cX3_init 63 = .ok (.bipush 10, 2) := dX3_init_all2.2.2.2.2.2.2.2.1
theorem dX3_init_65 : decode cX3_init 65 = .ok (.newarray .int, 2) := dX3_init_all2.2.2.2.2.2.2.2.2.1
theorem dX3_init_67 : decode cX3_init 67 = .ok (.putfield 33, 3) := dX3_init_all2.2.2.2.2.2.2.2.2.2.1
theorem dX3_init_70 : decode cX3_init 70 = .ok (.return_, 1) := dX3_init_all2.2.2.2.2.2.2.2.2.2.2
theorem dX4_init_all0 : decode cX4_init 0 = .ok (.aload_n 0, 1) ∧ decode cX4_init 1 = .ok (.invokespecial 3, 3) ∧ decode cX4_init 4 = .ok (.aload_n 0, 1) ∧ decode cX4_init 5 = .ok (.bipush 20, 2) ∧ decode cX4_init 7 = .ok (.newarray .int, 2) ∧ decode cX4_init 9 = .ok (.putfield 9, 3) ∧ decode cX4_init 12 = .ok (.aload_n 0, 1) ∧ decode cX4_init 13 = .ok (.bipush 20, 2) ∧ decode cX4_init 15 = .ok (.newarray .int, 2) ∧ decode cX4_init 17 = .ok (.putfield 15, 3) ∧ decode cX4_init 20 = .ok (.aload_n 0, 1) ∧ decode cX4_init 21 = .ok (.bipush 20, 2) := by decide +kernel
theorem dX4_init_0 : decode cX4_init 0 = .ok (.aload_n 0, 1) := dX4_init_all0.1
theorem dX4_init_1 : decode cX4_init 1 = .ok (.invokespecial 3, 3) := dX4_init_all0.2.1
theorem dX4_init_4 : decode cX4_init 4 = .ok (.aload_n 0, 1) := dX4_init_all0.2.2.1
theorem dX4_init_5 : decode cX4_init 5 = .ok (.bipush 20, 2) := dX4_init_all0.2.2.2.1
theorem dX4_init_7 : decode cX4_init 7 = .ok (.newarray .int, 2) := dX4_init_all0.2.2.2.2.1
theorem dX4_init_9 : decode cX4_init 9 = .ok (.putfield 9, 3) := dX4_init_all0.2.2.2.2.2.1
theorem dX4_init_12 : decode cX4_init 12 = .ok (.aload_n 0, 1) := dX4_init_all0.2.2.2.2.2.2.1
theorem dX4_init_13 : decode cX4_init 13 = .ok (.bipush 20, 2) := dX4_init_all0.2.2.2.2.2.2.2.1
theorem dX4_init_15 : decode cX4_init 15 = .ok (.newarray .int, 2) := dX4_init_all0.2.2.2.2.2.2.2.2.1
theorem dX4_init_17 : decode cX4_init 17 = .ok (.putfield 15, 3) := dX4_init_all0.2.2.2.2.2.2.2.2.2.1
theorem dX4_init_20 : decode cX4_init 20 = .ok (.aload_n 0, 1) := dX4_init_all0.2.2.2.2.2.2.2.2.2.2.1
theorem dX4_init_21 : decode cX4_init 21 = .ok (.bipush 20, 2) := dX4_init_all0.2.2.2.2.2.2.2.2.2.2.2
theorem dX4_init_all1 : decode cX4_init 23 = .ok (.newarray .int, 2) ∧ decode cX4_init 25 = .ok (.putfield 18, 3) ∧ decode cX4_init 28 = .ok (.return_, 1) := by decide +kernel
theorem dX4_init_23 : decode cX4_init 23 = .ok (.newarray .int, 2) := dX4_init_all1.1
theorem dX4_init_25 : decode cX4_init 25 = .ok (.putfield 18, 3) := dX4_init_all1.2.1
theorem dX4_init_28 : decode cX4_init 28 = .ok (.return_, 1) := dX4_init_all1.2.2
theorem dX5_init_all0 : decode cX5_init 0 = .ok (.aload_n 0, 1) ∧ decode cX5_init 1 = .ok (.invokespecial 3, 3) ∧ decode cX5_init 4 = .ok (.aload_n 0, 1) ∧ decode cX5_init 5 = .ok (.bipush 12, 2) ∧ decode cX5_init 7 = .ok (.newarray .long, 2) ∧ decode cX5_init 9 = .ok (.putfield 9, 3) ∧ decode cX5_init 12 = .ok (.aload_n 0, 1) ∧ decode cX5_init 13 = .ok (.iload_n 1, 1) ∧ decode cX5_init 14 = .ok (.putfield 15, 3) ∧ decode cX5_init 17 = .ok (.return_, 1) := by decide +kernel
theorem dX5_init_0 : decode cX5_init 0 = .ok (.aload_n 0, 1) := dX5_init_all0.1
theorem dX5_init_1 : decode cX5_init 1 = .ok (.invokespecial 3, 3) := dX5_init_all0.2.1
theorem dX5_init_4 : decode cX5_init 4 = .ok (.aload_n 0, 1) := dX5_init_all0.2.2.1
theorem dX5_init_5 : decode cX5_init 5 = .ok (.bipush 12, 2) := dX5_init_all0.2.2.2.1
theorem dX5_init_7 : decode cX5_init 7 = .ok (.newarray .long, 2) := dX5_init_all0.2.2.2.2.1
theorem dX5_init_9 : decode cX5_init 9 = .ok (.putfield 9, 3) := dX5_init_all0.2.2.2.2.2.1
theorem dX5_init_12 : decode cX5_init 12 = .ok (.aload_n 0, 1) := dX5_init_all0.2.2.2.2.2.2.1
theorem dX5_init_13 : decode cX5_init 13 = .ok (.iload_n 1, 1) := dX5_init_all0.2.2.2.2.2.2.2.1
theorem dX5_init_14 : decode cX5_init 14 = .ok (.putfield 15, 3) := dX5_init_all0.2.2.2.2.2.2.2.2.1
theorem dX5_init_17 : decode cX5_init 17 = .ok (.return_, 1) := dX5_init_all0.2.2.2.2.2.2.2.2.2
theorem dX6_init_all0 : decode cX6_init 0 = .ok (.aload_n 0, 1) ∧ decode cX6_init 1 = .ok (.invokespecial 3, 3) ∧ decode cX6_init 4 = .ok (.aload_n 0, 1) ∧ decode cX6_init 5 = .ok (.bipush 60, 2) ∧ decode cX6_init 7 = .ok (.newarray .int, 2) ∧ decode cX6_init 9 = .ok (.putfield 9, 3) ∧ decode cX6_init 12 = .ok (.aload_n 0, 1) ∧ decode cX6_init 13 = .ok (.bipush 60, 2) ∧ decode cX6_init 15 = .ok (.newarray .int, 2) ∧ decode cX6_init 17 = .ok (.putfield 15, 3) ∧ decode cX6_init 20 = .ok (.aload_n 0, 1) ∧ decode cX6_init 21 = .ok (.bipush 60, 2) := by decide +kernel
theorem dX6_init_0 : decode cX6_init 0 = .ok (.aload_n 0, 1) := dX6_init_all0.1
theorem dX6_init_1 : decode cX6_init 1 = .ok (.invokespecial 3, 3) := dX6_init_all0.2.1
theorem dX6_init_4 : decode cX6_init 4 = .ok (.aload_n 0, 1) := dX6_init_all0.2.2.1
theorem dX6_init_5 : decode cX6_init 5 = .ok (.bipush 60, 2) := dX6_init_all0.2.2.2.1
theorem dX6_init_7 : decode cX6_init 7 = .ok (.newarray .int, 2) := dX6_init_all0.2.2.2.2.1
theorem dX6_init_9 : decode cX6_init 9 = .ok (.putfield 9, 3) := dX6_init_all0.2.2.2.2.2.1
theorem dX6_init_12 : decode cX6_init 12 = .ok (.aload_n 0, 1) := dX6_init_all0.2.2.2.2.2.2.1
theorem dX6_init_13 : decode cX6_init 13 = .ok (.bipush 60, 2) := dX6_init_all0.2.2.2.2.2.2.2.1
theorem dX6_init_15 : decode cX6_init 15 = .ok (.newarray .int, 2) := dX6_init_all0.2.2.2.2.2.2.2.2.1
theorem dX6_init_17 : decode cX6_init 17 = .ok (.putfield 15, 3) := dX6_init_all0.2.2.2.2.2.2.2.2.2.1
theorem dX6_init_20 : decode cX6_init 20 = .ok (.aload_n 0, 1) := dX6_init_all0.2.2.2.2.2.2.2.2.2.2.1
theorem dX6_init_21 : decode cX6_init 21 = .ok (.bipush 60, 2) := dX6_init_all0.2.2.2.2.2.2.2.2.2.2.2
theorem dX6_init_all1 : decode cX6_init 23 = .ok (.newarray .int, 2) ∧ decode cX6_init 25 = .ok (.putfield 18, 3) ∧ decode cX6_init 28 = .ok (.aload_n 0, 1) ∧ decode cX6_init 29 = .ok (.bipush 60, 2) ∧ decode cX6_init 31 = .ok (.newarray .int, 2) ∧ decode cX6_init 33 = .ok (.putfield 21, 3) ∧ decode cX6_init 36 = .ok (.return_, 1) := by decide +kernel
theorem dX6_init_23 : decode cX6_init 23 = .ok (.newarray .int, 2) := dX6_init_all1.1
theorem dX6_init_25 : decode cX6_init 25 = .ok (.putfield 18, 3) := dX6_init_all1.2.1
theorem dX6_init_28 : decode cX6_init 28 = .ok (.aload_n 0, 1) := dX6_init_all1.2.2.1
theorem dX6_init_29 : decode cX6_init 29 = .ok (.bipush 60, 2) := dX6_init_all1.2.2.2.1
theorem dX6_init_31 : decode cX6_init 31 = .ok (.newarray .int, 2) := dX6_init_all1.2.2.2.2.1
theorem dX6_init_33 : decode cX6_init 33 = .ok (.putfield 21, 3) := dX6_init_all1.2.2.2.2.2.1
theorem dX6_init_36 : decode cX6_init 36 = .ok (.return_, 1) := dX6_init_all1.2.2.2.2.2.2
theorem dX7_init_all0 : decode cX7_init 0 = .ok (.aload_n 0, 1) ∧ decode cX7_init 1 = .ok (.invokespecial 3, 3) ∧ decode cX7_init 4 = .ok (.aload_n 0, 1) ∧ decode cX7_init 5 = .ok (.bipush 40, 2) ∧ decode cX7_init 7 = .ok (.newarray .int, 2) ∧ decode cX7_init 9 = .ok (.putfield 9, 3) ∧ decode cX7_init 12 = .ok (.aload_n 0, 1) ∧ decode cX7_init 13 = .ok (.bipush 40, 2) ∧ decode cX7_init 15 = .ok (.newarray .int, 2) ∧ decode cX7_init 17 = .ok (.putfield 15, 3) ∧ decode cX7_init 20 = .ok (.aload_n 0, 1) ∧ decode cX7_init 21 = .ok (.bipush 40, 2) := by decide +kernel
theorem dX7_init_0 : decode cX7_init 0 = .ok (.aload_n 0, 1) := dX7_init_all0.1
theorem dX7_init_1 : decode cX7_init 1 = .ok (.invokespecial 3, 3) := dX7_init_all0.2.1
theorem dX7_init_4 : decode cX7_init 4 = .ok (.aload_n 0, 1) := dX7_init_all0.2.2.1
theorem dX7_init_5 : decode cX7_init 5 = .ok (.bipush 40, 2) := dX7_init_all0.2.2.2.1
theorem dX7_init_7 : decode cX7_init 7 = .ok (.newarray .int, 2) := dX7_init_all0.2.2.2.2.1
theorem dX7_init_9 : decode cX7_init 9 = .ok (.putfield 9, 3) := dX7_init_all0.2.2.2.2.2.1
theorem dX7_init_12 : decode cX7_init 12 = .ok (.aload_n 0, 1) := dX7_init_all0.2.2.2.2.2.2.1
theorem dX7_init_13 : decode cX7_init 13 = .ok (.bipush 40, 2) := dX7_init_all0.2.2.2.2.2.2.2.1
theorem dX7_init_15 : decode cX7_init 15 = .ok (.newarray .int, 2) := dX7_init_all0.2.2.2.2.2.2.2.2.1
theorem dX7_init_17 : decode cX7_init 17 = .ok (.putfield 15, 3) := dX7_init_all0.2.2.2.2.2.2.2.2.2.1
theorem dX7_init_20 : decode cX7_init 20 = .ok (.aload_n 0, 1) := dX7_init_all0.2.2.2.2.2.2.2.2.2.2.1
theorem dX7_init_21 : decode cX7_init 21 = .ok (.bipush 40, 2) := dX7_init_all0.2.2.2.2.2.2.2.2.2.2.2
theorem dX7_init_all1 : decode cX7_init 23 = .ok (.newarray .int, 2) ∧ decode cX7_init 25 = .ok (.putfield 18, 3) ∧ decode cX7_init 28 = .ok (.aload_n 0, 1) ∧ decode cX7_init 29 = .ok (.bipush 40, 2) ∧ decode cX7_init 31 = .ok (.newarray .int, 2) ∧ decode cX7_init 33 = .ok (.putfield 21, 3) ∧ decode cX7_init 36 = .ok (.aload_n 0, 1) ∧ decode cX7_init 37 = .ok (.bipush 40, 2) ∧ decode cX7_init 39 = .ok (.newarray .int, 2) ∧ decode cX7_init 41 = .ok (.putfield 24, 3) ∧ decode cX7_init 44 = .ok (.aload_n 0, 1) ∧ decode cX7_init 45 = .ok (.bipush 40, 2) := by decide +kernel
theorem dX7_init_23 : decode cX7_init 23 = .ok (.newarray .int, 2) := dX7_init_all1.1
theorem dX7_init_25 : decode cX7_init 25 = .ok (.putfield 18, 3) := dX7_init_all1.2.1
theorem dX7_init_28 : decode cX7_init 28 = .ok (.aload_n 0, 1) := dX7_init_all1.2.2.1
theorem dX7_init_29 : decode cX7_init 29 = .ok (.bipush 40, 2) := dX7_init_all1.2.2.2.1
theorem dX7_init_31 : decode cX7_init 31 = .ok (.newarray .int, 2) := dX7_init_all1.2.2.2.2.1
theorem dX7_init_33 : decode cX7_init 33 = .ok (.putfield 21, 3) := dX7_init_all1.2.2.2.2.2.1
theorem dX7_init_36 : decode cX7_init 36 = .ok (.aload_n 0, 1) := dX7_init_all1.2.2.2.2.2.2.1
theorem dX7_init_37 : decode cX7_init 37 = .ok (.bipush 40, 2) := dX7_init_all1.2.2.2.2.2.2.2.1
theorem dX7_init_39 : decode cX7_init 39 = .ok (.newarray .int, 2) := dX7_init_all1.2.2.2.2.2.2.2.2.1
theorem dX7_init_41 : decode cX7_init 41 = .ok (.putfield 24, 3) := dX7_init_all1.2.2.2.2.2.2.2.2.2.1
theorem dX7_init_44 : decode cX7_init 44 = .ok (.aload_n 0, 1) := dX7_init_all1.2.2.2.2.2.2.2.2.2.2.1
theorem dX7_init_45 : decode cX7_init 45 = .ok (.bipush 40, 2) := dX7_init_all1.2.2.2.2.2.2.2.2.2.2.2
theorem dX7_init_all2 : decode cX7_init 47 = .ok (.newarray .int, 2) ∧ decode cX7_init 49 = .ok (.putfield 27, 3) ∧ decode cX7_init 52 = .ok (.return_, 1) := by decide +kernel
theorem dX7_init_47 : decode cX7_init 47 = .ok (.newarray .int, 2) := dX7_init_all2.1
theorem dX7_init_49 : decode cX7_init 49 = .ok (.putfield 27, 3) := dX7_init_all2.2.1
theorem dX7_init_52 : decode cX7_init 52 = .ok (.return_, 1) := dX7_init_all2.2.2
theorem dX8_init_all0 : decode cX8_init 0 = .ok (.aload_n 0, 1) ∧ decode cX8_init 1 = .ok (.invokespecial 3, 3) ∧ decode cX8_init 4 = .ok (.aload_n 0, 1) ∧ decode cX8_init 5 = .ok (.bipush 40, 2) ∧ decode cX8_init 7 = .ok (.newarray .int, 2) ∧ decode cX8_init 9 = .ok (.putfield 9, 3) ∧ decode cX8_init 12 = .ok (.aload_n 0, 1) ∧ decode cX8_init 13 = .ok (.bipush 40, 2) ∧ decode cX8_init 15 = .ok (.newarray .int, 2) ∧ decode cX8_init 17 = .ok (.putfield 15, 3) ∧ decode cX8_init 20 = .ok (.aload_n 0, 1) ∧ decode cX8_init 21 = .ok (.bipush 40, 2) := by decide +kernel
theorem dX8_init_0 : decode cX8_init 0 = .ok (.aload_n 0, 1) := dX8_init_all0.1
theorem dX8_init_1 : decode cX8_init 1 = .ok (.invokespecial 3, 3) := dX8_init_all0.2.1
theorem dX8_init_4 : decode cX8_init 4 = .ok (.aload_n 0, 1) := dX8_init_all0.2.2.1
theorem dX8_init_5 : decode cX8_init 5 = .ok (.bipush 40, 2) := dX8_init_all0.2.2.2.1
theorem dX8_init_7 : decode cX8_init 7 = .ok (.newarray .int, 2) := dX8_init_all0.2.2.2.2.1
theorem dX8_init_9 : decode cX8_init 9 = .ok (.putfield 9, 3) := dX8_init_all0.2.2.2.2.2.1
theorem dX8_init_12 : decode cX8_init 12 = .ok (.aload_n 0, 1) := dX8_init_all0.2.2.2.2.2.2.1
theorem dX8_init_13 : decode cX8_init 13 = .ok (.bipush 40, 2) := dX8_init_all0.2.2.2.2.2.2.2.1
theorem dX8_init_15 : decode cX8_init 15 = .ok (.newarray .int, 2) := dX8_init_all0.2.2.2.2.2.2.2.2.1
theorem dX8_init_17 : decode cX8_init 17 = .ok (.putfield 15, 3) := dX8_init_all0.2.2.2.2.2.2.2.2.2.1
theorem dX8_init_20 : decode cX8_init 20 = .ok (.aload_n 0, 1) := dX8_init_all0.2.2.2.2.2.2.2.2.2.2.1
theorem dX8_init_21 : decode cX8_init 21 = .ok (.bipush 40, 2) := dX8_init_all0.2.2.2.2.2.2.2.2.2.2.2
theorem dX8_init_all1 : decode cX8_init 23 = .ok (.newarray .int, 2) ∧ decode cX8_init 25 = .ok (.putfield 18, 3) ∧ decode cX8_init 28 = .ok (.aload_n 0, 1) ∧ decode cX8_init 29 = .ok (.bipush 40, 2) ∧ decode cX8_init 31 = .ok (.newarray .int, 2) ∧ decode cX8_init 33 = .ok (.putfield 21, 3) ∧ decode cX8_init 36 = .ok (.aload_n 0, 1) ∧ decode cX8_init 37 = .ok (.bipush 40, 2) ∧ decode cX8_init 39 = .ok (.newarray .int, 2) ∧ decode cX8_init 41 = .ok (.putfield 24, 3) ∧ decode cX8_init 44 = .ok (.return_, 1) := by decide +kernel
theorem dX8_init_23 : decode cX8_init 23 = .ok (.newarray .int, 2) := dX8_init_all1.1
theorem dX8_init_25 : decode cX8_init 25 = .ok (.putfield 18, 3) := dX8_init_all1.2.1
theorem dX8_init_28 : decode cX8_init 28 = .ok (.aload_n 0, 1) := dX8_init_all1.2.2.1
theorem dX8_init_29 : decode cX8_init 29 = .ok (.bipush 40, 2) := dX8_init_all1.2.2.2.1
theorem dX8_init_31 : decode cX8_init 31 = .ok (.newarray .int, 2) := dX8_init_all1.2.2.2.2.1
theorem dX8_init_33 : decode cX8_init 33 = .ok (.putfield 21, 3) := dX8_init_all1.2.2.2.2.2.1
theorem dX8_init_36 : decode cX8_init 36 = .ok (.aload_n 0, 1) := dX8_init_all1.2.2.2.2.2.2.1
theorem dX8_init_37 : decode cX8_init 37 = .ok (.bipush 40, 2) := dX8_init_all1.2.2.2.2.2.2.2.1
theorem dX8_init_39 : decode cX8_init 39 = .ok (.newarray .int, 2) := dX8_init_all1.2.2.2.2.2.2.2.2.1
theorem dX8_init_41 : decode cX8_init 41 = .ok (.putfield 24, 3) := dX8_init_all1.2.2.2.2.2.2.2.2.2.1
theorem dX8_init_44 : decode cX8_init 44 = .ok (.return_, 1) := dX8_init_all1.2.2.2.2.2.2.2.2.2.2
theorem ggX9_init_J7_fill_53178 : GoodIn wsX9_init wsJ7_fill_53178 := goodIn_s (fun _ h => wm_t (wm_r (wm_r h))) Gd_J7_fill_53178
theorem gX9_init_J7_fill_53178 : GoodIn wsX9_init (va_wsS RX9 23 yJ7_fill_53178 wsJ7_fill_53178) := goodIn_S (own := RX9) (idx := 23) (y := yJ7_fill_53178) (wm_t (wm_l (wm_i 8 rfl))) (wm_t (wm_l (wm_i 9 rfl))) (wm_t (wm_l (wm_i 10 rfl))) ggX9_init_J7_fill_53178
theorem dX9_init_all0 : decode cX9_init 0 = .ok (.aload_n 0, 1) ∧ decode cX9_init 1 = .ok (.invokespecial 3, 3) ∧ decode cX9_init 4 = .ok (.aload_n 0, 1) ∧ decode cX9_init 5 = .ok (.bipush 8, 2) ∧ decode cX9_init 7 = .ok (.bipush 60, 2) ∧ decode cX9_init 9 = .ok (.multianewarray 9 2, 4) ∧ decode cX9_init 13 = .ok (.putfield 11, 3) ∧ decode cX9_init 16 = .ok (.aload_n 0, 1) ∧ decode cX9_init 17 = .ok (.bipush 8, 2) ∧ decode cX9_init 19 = .ok (.newarray .int, 2) ∧ decode cX9_init 21 = .ok (.putfield 16, 3) ∧ decode cX9_init 24 = .ok (.aload_n 0, 1) := by decide +kernel
theorem dX9_init_0 : decode cX9_init 0 = .ok (.aload_n 0, 1) := dX9_init_all0.1
theorem dX9_init_1 : decode cX9_init 1 = .ok (.invokespecial 3, 3) := dX9_init_all0.2.1
theorem dX9_init_4 : decode cX9_init 4 = .ok (.aload_n 0, 1) := dX9_init_all0.2.2.1
theorem dX9_init_5 : decode cX9_init 5 = .ok (.bipush 8, 2) := dX9_init_all0.2.2.2.1
theorem dX9_init_7 : decode cX9_init 7 = .ok (.bipush 60, 2) := dX9_init_all0.2.2.2.2.1
theorem dX9_init_9 : decode cX9_init 9 = .ok (.multianewarray 9 2, 4) := dX9_init_all0.2.2.2.2.2.1
theorem dX9_init_13 : decode cX9_init 13 = .ok (.putfield 11, 3) := dX9_init_all0.2.2.2.2.2.2.1
theorem dX9_init_16 : decode cX9_init 16 = .ok (.aload_n 0, 1) := dX9_init_all0.2.2.2.2.2.2.2.1
theorem dX9_init_17 : decode cX9_init 17 = .ok (.bipush 8, 2) := dX9_init_all0.2.2.2.2.2.2.2.2.1
theorem dX9_init_19 : decode cX9_init 19 = .ok (.newarray .int, 2) := dX9_init_all0.2.2.2.2.2.2.2.2.2.1
theorem dX9_init_21 : decode cX9_init 21 = .ok (.putfield 16, 3) := dX9_init_all0.2.2.2.2.2.2.2.2.2.2.1
theorem dX9_init_24 : decode cX9_init 24 = .ok (.aload_n 0, 1) := dX9_init_all0.2.2.2.2.2.2.2.2.2.2.2
theorem dX9_init_all1 : decode cX9_init 25 = .ok (.bipush 8, 2) ∧ decode cX9_init 27 = .ok (.newarray .int, 2) ∧ decode cX9_init 29 = .ok (.putfield 20, 3) ∧ decode cX9_init 32 = .ok (.aload_n 0, 1) ∧ decode cX9_init 33 = .ok (.getfield 20, 3) ∧ decode cX9_init 36 = .ok (.iconst (-1), 1) ∧ decode cX9_init 37 = .ok (.invokestatic 23, 3) ∧ decode cX9_init 40 = .ok (.return_, 1) := by decide +kernel
theorem dX9_init_25 : decode cX9_init 25 = .ok (.bipush 8, 2) := dX9_init_all1.1
theorem dX9_init_27 : decode cX9_init 27 = .ok (.newarray .int, 2) := dX9_init_all1.2.1
theorem dX9_init_29 : decode cX9_init 29 = .ok (.putfield 20, 3) := dX9_init_all1.2.2.1
theorem dX9_init_32 : decode cX9_init 32 = .ok (.aload_n 0, 1) := dX9_init_all1.2.2.2.1
theorem dX9_init_33 : decode cX9_init 33 = .ok (.getfield 20, 3) := dX9_init_all1.2.2.2.2.1
theorem dX9_init_36 : decode cX9_init 36 = .ok (.iconst (-1), 1) := dX9_init_all1.2.2.2.2.2.1
theorem dX9_init_37 : decode cX9_init 37 = .ok (.invokestatic 23, 3) := dX9_init_all1.2.2.2.2.2.2.1
theorem dX9_init_40 : decode cX9_init 40 = .ok (.return_, 1) := dX9_init_all1.2.2.2.2.2.2.2
set_option maxHeartbeats 4000000 in
set_option maxRecDepth 100000 in
theorem ct_X3_init (l : Launch) (D : va_G) (cI cY cJ cQ : ClassId) (sz : Nat) (h0 : Nat)   : Met l yX3_init wsX3_init ({ frames := 1, cells := 8, slots := 590, locals := 12 }) (cPre D (ty4 cI cY cJ cQ) [(h0, .inr (3, [.null, .null, .null, .null, .int 0, .null, .null, .null, .null]))] sz [.ref h0]) (va_Qv (fun (u : Nat → Nat) => True) (cB D (ty4 cI cY cJ cQ) (fun (u : Nat → Nat) => [(h0, .inr (3, [.ref (u 0), .ref (u 1), .ref (u 2), .ref (u 3), .int 0, .ref (u 5), .ref (u 6), .ref (u 7), .ref (u 8)])), (aI cI (u 0) 40 (fun _ => 0)), (aI cI (u 1) 40 (fun _ => 0)), (aI cI (u 2) 40 (fun _ => 0)), (aI cI (u 3) 40 (fun _ => 0)), (aI cI (u 5) 200 (fun _ => 0)), (aI cI (u 6) 200 (fun _ => 0)), (aI cI (u 7) 20 (fun _ => 0)), (aI cI (u 8) 10 (fun _ => 0))]) (va_A [(h0, .inr (3, [.null, .null, .null, .null, .int 0, .null, .null, .null, .null]))] sz)) (va_A [(h0, .inr (3, [.null, .null, .null, .null, .int 0, .null, .null, .null, .null]))] sz)) 8 590 (va_A [(h0, .inr (3, [.null, .null, .null, .null, .int 0, .null, .null, .null, .null]))] sz) := by
  refine Met.ofW (cc := cX3_init) (maxL := 1) (ret := none) (by decide) rfl ?_
  intro p e s m args below meth c s₁ B hml hv
  obtain ⟨rfl, hsz, hP, hK, hD0, hN⟩ := hv
  have hx := B.exec
  have hb := B.bytes
  have hr := B.returns
  have hts := atoms_spec (ws := wsX3_init) B.pre
  have hown : s.vm.findClass RX3 = some m.cls := findClass_of_methodNamed B.named
  have hlocks := B.notSynchronized
  have hin : meth.name = "<init>" := (name_of_methodNamed B.named B.method).1
  subst hsz
  have hD := hD0.self (sz := s.heap.size)
  generalize hAe : va_A [(h0, .inr (3, [.null, .null, .null, .null, .int 0, .null, .null, .null, .null]))] s.heap.size = A at hD ⊢
  have hA : ∀ q : Nat, s.heap.size ≤ q → A q := fun q h => by rw [← hAe]; exact Or.inr h
  have hS : va_S A s.heap s.heap [] := va_S.rf
  have hP : va_P D vwCl [(h0, .inr (3, [.null, .null, .null, .null, .int 0, .null, .null, .null, .null]))] s.heap := hP
  have hl := lv_entry ([.ref h0]) (n := 1) (Nat.le_of_ble_eq_true rfl)
  rw [lg_entry_eq]
  generalize (lg_sl ([.ref h0]) ++ List.replicate (1 - (lg_sl ([.ref h0])).length) Slot.unset).toArray = ls at hl ⊢
  have hl : lv_has ls 1 [(0, .ref h0)] := hl
  refine lv_aload_n hx hb dX3_init_0 rfl (lv_at hl 0 rfl) ?_
  refine W.objInit hx hb hown (hts (Cond.methodLink RX3 3 objectInit) (wm_t (wm_l (wm_i 0 rfl)))) (hts (Cond.instanceMethod objectInit) (wm_t (wm_l (wm_i 1 rfl)))) (hts _ (by decide +kernel)) rfl (by rw [hml]; exact hl.1) rfl dX3_init_1 (Nat.le_of_ble_eq_true rfl) (Nat.le_of_ble_eq_true rfl) ?_
  refine W.eq (g2 := F0 m 4 ls []) rfl ?_
  refine lv_aload_n hx hb dX3_init_4 rfl (lv_at hl 0 rfl) ?_
  refine lv_bipush (v := 40) hx hb dX3_init_5 (by decide) ?_
  refine va_newa (atype := .int) (ty := .int) (a0 := (40, .inl (fun _ => 0))) hx hb (hts (Cond.arrayClass .int) (wm_t (wm_l (wm_i 3 rfl)))) rfl hK hP hD hS hA (fun _ => rfl) (by decide) (by decide) (by decide) (Nat.le_of_ble_eq_true rfl) (Nat.le_of_ble_eq_true rfl) dX3_init_7 (fun q1 cA2 H => ?_)
  clear hK hP hD hS
  intro hK hP hD hS
  have ecA2 : cI = cA2 := cls_eq hK 0 4 rfl rfl
  subst ecA2
  replace hK : va_K D vwCl (ty4 cI cY cJ cQ) s := hK.sub (tys' := ty4 cI cY cJ cQ) [0, 1, 2, 3] rfl
  replace hP : va_P D vwCl [(h0, .inr (3, [.null, .null, .null, .null, .int 0, .null, .null, .null, .null])), (aI cI q1 40 (fun _ => 0))] H := hP
  replace hD : va_D A [(h0, .inr (3, [.null, .null, .null, .null, .int 0, .null, .null, .null, .null])), (aI cI q1 40 (fun _ => 0))] := hD
  refine W.widen (k := 1) (n := 40) (by first | exact Nat.le_of_ble_eq_true rfl | omega) (by first | exact Nat.le_of_ble_eq_true rfl | omega) ?_
  refine va_putF (D := D) (ci := 3) (v := .ref q1) (ty := (.array .int)) (C := RX3) (T := TX3) (N := 9) hx hb hts inX3_init_X3 tyX3 tyX3_ok nmX3 hown hK hP hD hS 0 rfl rfl 0 (by decide) (hts (Cond.fieldLink RX3 9 "PortRooms$Holdings" "owner" "[I") (wm_t (wm_l (wm_i 4 rfl)))) (fun _ h9 => h9) rfl hin rfl (tyX3_ok 0 (by decide)) rfl rfl (Nat.le_of_ble_eq_true rfl) dX3_init_9 (fun H locs => ?_)
  clear hP hD hS
  intro hP hD hS
  replace hP : va_P D vwCl [(h0, .inr (3, [.ref q1, .null, .null, .null, .int 0, .null, .null, .null, .null])), (aI cI q1 40 (fun _ => 0))] H := hP
  replace hD : va_D A [(h0, .inr (3, [.ref q1, .null, .null, .null, .int 0, .null, .null, .null, .null])), (aI cI q1 40 (fun _ => 0))] := hD
  refine lv_aload_n hx hb dX3_init_12 rfl (lv_at hl 0 rfl) ?_
  refine lv_bipush (v := 40) hx hb dX3_init_13 (by decide) ?_
  refine va_newa (atype := .int) (ty := .int) (a0 := (40, .inl (fun _ => 0))) hx hb (hts (Cond.arrayClass .int) (wm_t (wm_l (wm_i 3 rfl)))) rfl hK hP hD hS hA (fun _ => rfl) (by decide) (by decide) (by decide) (Nat.le_of_ble_eq_true rfl) (Nat.le_of_ble_eq_true rfl) dX3_init_15 (fun q3 cA4 H => ?_)
  clear hK hP hD hS
  intro hK hP hD hS
  have ecA4 : cI = cA4 := cls_eq hK 0 4 rfl rfl
  subst ecA4
  replace hK : va_K D vwCl (ty4 cI cY cJ cQ) s := hK.sub (tys' := ty4 cI cY cJ cQ) [0, 1, 2, 3] rfl
  replace hP : va_P D vwCl [(h0, .inr (3, [.ref q1, .null, .null, .null, .int 0, .null, .null, .null, .null])), (aI cI q1 40 (fun _ => 0)), (aI cI q3 40 (fun _ => 0))] H := hP
  replace hD : va_D A [(h0, .inr (3, [.ref q1, .null, .null, .null, .int 0, .null, .null, .null, .null])), (aI cI q1 40 (fun _ => 0)), (aI cI q3 40 (fun _ => 0))] := hD
  refine W.widen (k := 2) (n := 80) (by first | exact Nat.le_of_ble_eq_true rfl | omega) (by first | exact Nat.le_of_ble_eq_true rfl | omega) ?_
  refine va_putF (D := D) (ci := 3) (v := .ref q3) (ty := (.array .int)) (C := RX3) (T := TX3) (N := 9) hx hb hts inX3_init_X3 tyX3 tyX3_ok nmX3 hown hK hP hD hS 0 rfl rfl 1 (by decide) (hts (Cond.fieldLink RX3 15 "PortRooms$Holdings" "company" "[I") (wm_t (wm_l (wm_i 5 rfl)))) (fun _ h9 => h9) rfl hin rfl (tyX3_ok 1 (by decide)) rfl rfl (Nat.le_of_ble_eq_true rfl) dX3_init_17 (fun H locs => ?_)
  clear hP hD hS
  intro hP hD hS
  replace hP : va_P D vwCl [(h0, .inr (3, [.ref q1, .ref q3, .null, .null, .int 0, .null, .null, .null, .null])), (aI cI q1 40 (fun _ => 0)), (aI cI q3 40 (fun _ => 0))] H := hP
  replace hD : va_D A [(h0, .inr (3, [.ref q1, .ref q3, .null, .null, .int 0, .null, .null, .null, .null])), (aI cI q1 40 (fun _ => 0)), (aI cI q3 40 (fun _ => 0))] := hD
  refine lv_aload_n hx hb dX3_init_20 rfl (lv_at hl 0 rfl) ?_
  refine lv_bipush (v := 40) hx hb dX3_init_21 (by decide) ?_
  refine va_newa (atype := .int) (ty := .int) (a0 := (40, .inl (fun _ => 0))) hx hb (hts (Cond.arrayClass .int) (wm_t (wm_l (wm_i 3 rfl)))) rfl hK hP hD hS hA (fun _ => rfl) (by decide) (by decide) (by decide) (Nat.le_of_ble_eq_true rfl) (Nat.le_of_ble_eq_true rfl) dX3_init_23 (fun q5 cA6 H => ?_)
  clear hK hP hD hS
  intro hK hP hD hS
  have ecA6 : cI = cA6 := cls_eq hK 0 4 rfl rfl
  subst ecA6
  replace hK : va_K D vwCl (ty4 cI cY cJ cQ) s := hK.sub (tys' := ty4 cI cY cJ cQ) [0, 1, 2, 3] rfl
  replace hP : va_P D vwCl [(h0, .inr (3, [.ref q1, .ref q3, .null, .null, .int 0, .null, .null, .null, .null])), (aI cI q1 40 (fun _ => 0)), (aI cI q3 40 (fun _ => 0)), (aI cI q5 40 (fun _ => 0))] H := hP
  replace hD : va_D A [(h0, .inr (3, [.ref q1, .ref q3, .null, .null, .int 0, .null, .null, .null, .null])), (aI cI q1 40 (fun _ => 0)), (aI cI q3 40 (fun _ => 0)), (aI cI q5 40 (fun _ => 0))] := hD
  refine W.widen (k := 3) (n := 120) (by first | exact Nat.le_of_ble_eq_true rfl | omega) (by first | exact Nat.le_of_ble_eq_true rfl | omega) ?_
  refine va_putF (D := D) (ci := 3) (v := .ref q5) (ty := (.array .int)) (C := RX3) (T := TX3) (N := 9) hx hb hts inX3_init_X3 tyX3 tyX3_ok nmX3 hown hK hP hD hS 0 rfl rfl 2 (by decide) (hts (Cond.fieldLink RX3 18 "PortRooms$Holdings" "percentage" "[I") (wm_t (wm_l (wm_i 6 rfl)))) (fun _ h9 => h9) rfl hin rfl (tyX3_ok 2 (by decide)) rfl rfl (Nat.le_of_ble_eq_true rfl) dX3_init_25 (fun H locs => ?_)
  clear hP hD hS
  intro hP hD hS
  replace hP : va_P D vwCl [(h0, .inr (3, [.ref q1, .ref q3, .ref q5, .null, .int 0, .null, .null, .null, .null])), (aI cI q1 40 (fun _ => 0)), (aI cI q3 40 (fun _ => 0)), (aI cI q5 40 (fun _ => 0))] H := hP
  replace hD : va_D A [(h0, .inr (3, [.ref q1, .ref q3, .ref q5, .null, .int 0, .null, .null, .null, .null])), (aI cI q1 40 (fun _ => 0)), (aI cI q3 40 (fun _ => 0)), (aI cI q5 40 (fun _ => 0))] := hD
  refine lv_aload_n hx hb dX3_init_28 rfl (lv_at hl 0 rfl) ?_
  refine lv_bipush (v := 40) hx hb dX3_init_29 (by decide) ?_
  refine va_newa (atype := .int) (ty := .int) (a0 := (40, .inl (fun _ => 0))) hx hb (hts (Cond.arrayClass .int) (wm_t (wm_l (wm_i 3 rfl)))) rfl hK hP hD hS hA (fun _ => rfl) (by decide) (by decide) (by decide) (Nat.le_of_ble_eq_true rfl) (Nat.le_of_ble_eq_true rfl) dX3_init_31 (fun q7 cA8 H => ?_)
  clear hK hP hD hS
  intro hK hP hD hS
  have ecA8 : cI = cA8 := cls_eq hK 0 4 rfl rfl
  subst ecA8
  replace hK : va_K D vwCl (ty4 cI cY cJ cQ) s := hK.sub (tys' := ty4 cI cY cJ cQ) [0, 1, 2, 3] rfl
  replace hP : va_P D vwCl [(h0, .inr (3, [.ref q1, .ref q3, .ref q5, .null, .int 0, .null, .null, .null, .null])), (aI cI q1 40 (fun _ => 0)), (aI cI q3 40 (fun _ => 0)), (aI cI q5 40 (fun _ => 0)), (aI cI q7 40 (fun _ => 0))] H := hP
  replace hD : va_D A [(h0, .inr (3, [.ref q1, .ref q3, .ref q5, .null, .int 0, .null, .null, .null, .null])), (aI cI q1 40 (fun _ => 0)), (aI cI q3 40 (fun _ => 0)), (aI cI q5 40 (fun _ => 0)), (aI cI q7 40 (fun _ => 0))] := hD
  refine W.widen (k := 4) (n := 160) (by first | exact Nat.le_of_ble_eq_true rfl | omega) (by first | exact Nat.le_of_ble_eq_true rfl | omega) ?_
  refine va_putF (D := D) (ci := 3) (v := .ref q7) (ty := (.array .int)) (C := RX3) (T := TX3) (N := 9) hx hb hts inX3_init_X3 tyX3 tyX3_ok nmX3 hown hK hP hD hS 0 rfl rfl 3 (by decide) (hts (Cond.fieldLink RX3 21 "PortRooms$Holdings" "since" "[I") (wm_t (wm_l (wm_i 7 rfl)))) (fun _ h9 => h9) rfl hin rfl (tyX3_ok 3 (by decide)) rfl rfl (Nat.le_of_ble_eq_true rfl) dX3_init_33 (fun H locs => ?_)
  clear hP hD hS
  intro hP hD hS
  replace hP : va_P D vwCl [(h0, .inr (3, [.ref q1, .ref q3, .ref q5, .ref q7, .int 0, .null, .null, .null, .null])), (aI cI q1 40 (fun _ => 0)), (aI cI q3 40 (fun _ => 0)), (aI cI q5 40 (fun _ => 0)), (aI cI q7 40 (fun _ => 0))] H := hP
  replace hD : va_D A [(h0, .inr (3, [.ref q1, .ref q3, .ref q5, .ref q7, .int 0, .null, .null, .null, .null])), (aI cI q1 40 (fun _ => 0)), (aI cI q3 40 (fun _ => 0)), (aI cI q5 40 (fun _ => 0)), (aI cI q7 40 (fun _ => 0))] := hD
  refine lv_aload_n hx hb dX3_init_36 rfl (lv_at hl 0 rfl) ?_
  refine lv_sipush (v := 200) hx hb dX3_init_37 (by decide) ?_
  refine va_newa (atype := .int) (ty := .int) (a0 := (200, .inl (fun _ => 0))) hx hb (hts (Cond.arrayClass .int) (wm_t (wm_l (wm_i 3 rfl)))) rfl hK hP hD hS hA (fun _ => rfl) (by decide) (by decide) (by decide) (Nat.le_of_ble_eq_true rfl) (Nat.le_of_ble_eq_true rfl) dX3_init_40 (fun q9 cA10 H => ?_)
  clear hK hP hD hS
  intro hK hP hD hS
  have ecA10 : cI = cA10 := cls_eq hK 0 4 rfl rfl
  subst ecA10
  replace hK : va_K D vwCl (ty4 cI cY cJ cQ) s := hK.sub (tys' := ty4 cI cY cJ cQ) [0, 1, 2, 3] rfl
  replace hP : va_P D vwCl [(h0, .inr (3, [.ref q1, .ref q3, .ref q5, .ref q7, .int 0, .null, .null, .null, .null])), (aI cI q1 40 (fun _ => 0)), (aI cI q3 40 (fun _ => 0)), (aI cI q5 40 (fun _ => 0)), (aI cI q7 40 (fun _ => 0)), (aI cI q9 200 (fun _ => 0))] H := hP
  replace hD : va_D A [(h0, .inr (3, [.ref q1, .ref q3, .ref q5, .ref q7, .int 0, .null, .null, .null, .null])), (aI cI q1 40 (fun _ => 0)), (aI cI q3 40 (fun _ => 0)), (aI cI q5 40 (fun _ => 0)), (aI cI q7 40 (fun _ => 0)), (aI cI q9 200 (fun _ => 0))] := hD
  refine W.widen (k := 5) (n := 360) (by first | exact Nat.le_of_ble_eq_true rfl | omega) (by first | exact Nat.le_of_ble_eq_true rfl | omega) ?_
  refine va_putF (D := D) (ci := 3) (v := .ref q9) (ty := (.array .int)) (C := RX3) (T := TX3) (N := 9) hx hb hts inX3_init_X3 tyX3 tyX3_ok nmX3 hown hK hP hD hS 0 rfl rfl 5 (by decide) (hts (Cond.fieldLink RX3 24 "PortRooms$Holdings" "part" "[I") (wm_t (wm_l (wm_i 8 rfl)))) (fun _ h9 => h9) rfl hin rfl (tyX3_ok 5 (by decide)) rfl rfl (Nat.le_of_ble_eq_true rfl) dX3_init_42 (fun H locs => ?_)
  clear hP hD hS
  intro hP hD hS
  replace hP : va_P D vwCl [(h0, .inr (3, [.ref q1, .ref q3, .ref q5, .ref q7, .int 0, .ref q9, .null, .null, .null])), (aI cI q1 40 (fun _ => 0)), (aI cI q3 40 (fun _ => 0)), (aI cI q5 40 (fun _ => 0)), (aI cI q7 40 (fun _ => 0)), (aI cI q9 200 (fun _ => 0))] H := hP
  replace hD : va_D A [(h0, .inr (3, [.ref q1, .ref q3, .ref q5, .ref q7, .int 0, .ref q9, .null, .null, .null])), (aI cI q1 40 (fun _ => 0)), (aI cI q3 40 (fun _ => 0)), (aI cI q5 40 (fun _ => 0)), (aI cI q7 40 (fun _ => 0)), (aI cI q9 200 (fun _ => 0))] := hD
  refine lv_aload_n hx hb dX3_init_45 rfl (lv_at hl 0 rfl) ?_
  refine lv_sipush (v := 200) hx hb dX3_init_46 (by decide) ?_
  refine va_newa (atype := .int) (ty := .int) (a0 := (200, .inl (fun _ => 0))) hx hb (hts (Cond.arrayClass .int) (wm_t (wm_l (wm_i 3 rfl)))) rfl hK hP hD hS hA (fun _ => rfl) (by decide) (by decide) (by decide) (Nat.le_of_ble_eq_true rfl) (Nat.le_of_ble_eq_true rfl) dX3_init_49 (fun q11 cA12 H => ?_)
  clear hK hP hD hS
  intro hK hP hD hS
  have ecA12 : cI = cA12 := cls_eq hK 0 4 rfl rfl
  subst ecA12
  replace hK : va_K D vwCl (ty4 cI cY cJ cQ) s := hK.sub (tys' := ty4 cI cY cJ cQ) [0, 1, 2, 3] rfl
  replace hP : va_P D vwCl [(h0, .inr (3, [.ref q1, .ref q3, .ref q5, .ref q7, .int 0, .ref q9, .null, .null, .null])), (aI cI q1 40 (fun _ => 0)), (aI cI q3 40 (fun _ => 0)), (aI cI q5 40 (fun _ => 0)), (aI cI q7 40 (fun _ => 0)), (aI cI q9 200 (fun _ => 0)), (aI cI q11 200 (fun _ => 0))] H := hP
  replace hD : va_D A [(h0, .inr (3, [.ref q1, .ref q3, .ref q5, .ref q7, .int 0, .ref q9, .null, .null, .null])), (aI cI q1 40 (fun _ => 0)), (aI cI q3 40 (fun _ => 0)), (aI cI q5 40 (fun _ => 0)), (aI cI q7 40 (fun _ => 0)), (aI cI q9 200 (fun _ => 0)), (aI cI q11 200 (fun _ => 0))] := hD
  refine W.widen (k := 6) (n := 560) (by first | exact Nat.le_of_ble_eq_true rfl | omega) (by first | exact Nat.le_of_ble_eq_true rfl | omega) ?_
  refine va_putF (D := D) (ci := 3) (v := .ref q11) (ty := (.array .int)) (C := RX3) (T := TX3) (N := 9) hx hb hts inX3_init_X3 tyX3 tyX3_ok nmX3 hown hK hP hD hS 0 rfl rfl 6 (by decide) (hts (Cond.fieldLink RX3 27 "PortRooms$Holdings" "partSince" "[I") (wm_t (wm_l (wm_i 9 rfl)))) (fun _ h9 => h9) rfl hin rfl (tyX3_ok 6 (by decide)) rfl rfl (Nat.le_of_ble_eq_true rfl) dX3_init_51 (fun H locs => ?_)
  clear hP hD hS
  intro hP hD hS
  replace hP : va_P D vwCl [(h0, .inr (3, [.ref q1, .ref q3, .ref q5, .ref q7, .int 0, .ref q9, .ref q11, .null, .null])), (aI cI q1 40 (fun _ => 0)), (aI cI q3 40 (fun _ => 0)), (aI cI q5 40 (fun _ => 0)), (aI cI q7 40 (fun _ => 0)), (aI cI q9 200 (fun _ => 0)), (aI cI q11 200 (fun _ => 0))] H := hP
  replace hD : va_D A [(h0, .inr (3, [.ref q1, .ref q3, .ref q5, .ref q7, .int 0, .ref q9, .ref q11, .null, .null])), (aI cI q1 40 (fun _ => 0)), (aI cI q3 40 (fun _ => 0)), (aI cI q5 40 (fun _ => 0)), (aI cI q7 40 (fun _ => 0)), (aI cI q9 200 (fun _ => 0)), (aI cI q11 200 (fun _ => 0))] := hD
  refine lv_aload_n hx hb dX3_init_54 rfl (lv_at hl 0 rfl) ?_
  refine lv_bipush (v := 20) hx hb dX3_init_55 (by decide) ?_
  refine va_newa (atype := .int) (ty := .int) (a0 := (20, .inl (fun _ => 0))) hx hb (hts (Cond.arrayClass .int) (wm_t (wm_l (wm_i 3 rfl)))) rfl hK hP hD hS hA (fun _ => rfl) (by decide) (by decide) (by decide) (Nat.le_of_ble_eq_true rfl) (Nat.le_of_ble_eq_true rfl) dX3_init_57 (fun q13 cA14 H => ?_)
  clear hK hP hD hS
  intro hK hP hD hS
  have ecA14 : cI = cA14 := cls_eq hK 0 4 rfl rfl
  subst ecA14
  replace hK : va_K D vwCl (ty4 cI cY cJ cQ) s := hK.sub (tys' := ty4 cI cY cJ cQ) [0, 1, 2, 3] rfl
  replace hP : va_P D vwCl [(h0, .inr (3, [.ref q1, .ref q3, .ref q5, .ref q7, .int 0, .ref q9, .ref q11, .null, .null])), (aI cI q1 40 (fun _ => 0)), (aI cI q3 40 (fun _ => 0)), (aI cI q5 40 (fun _ => 0)), (aI cI q7 40 (fun _ => 0)), (aI cI q9 200 (fun _ => 0)), (aI cI q11 200 (fun _ => 0)), (aI cI q13 20 (fun _ => 0))] H := hP
  replace hD : va_D A [(h0, .inr (3, [.ref q1, .ref q3, .ref q5, .ref q7, .int 0, .ref q9, .ref q11, .null, .null])), (aI cI q1 40 (fun _ => 0)), (aI cI q3 40 (fun _ => 0)), (aI cI q5 40 (fun _ => 0)), (aI cI q7 40 (fun _ => 0)), (aI cI q9 200 (fun _ => 0)), (aI cI q11 200 (fun _ => 0)), (aI cI q13 20 (fun _ => 0))] := hD
  refine W.widen (k := 7) (n := 580) (by first | exact Nat.le_of_ble_eq_true rfl | omega) (by first | exact Nat.le_of_ble_eq_true rfl | omega) ?_
  refine va_putF (D := D) (ci := 3) (v := .ref q13) (ty := (.array .int)) (C := RX3) (T := TX3) (N := 9) hx hb hts inX3_init_X3 tyX3 tyX3_ok nmX3 hown hK hP hD hS 0 rfl rfl 7 (by decide) (hts (Cond.fieldLink RX3 30 "PortRooms$Holdings" "has" "[I") (wm_t (wm_l (wm_i 10 rfl)))) (fun _ h9 => h9) rfl hin rfl (tyX3_ok 7 (by decide)) rfl rfl (Nat.le_of_ble_eq_true rfl) dX3_init_59 (fun H locs => ?_)
  clear hP hD hS
  intro hP hD hS
  replace hP : va_P D vwCl [(h0, .inr (3, [.ref q1, .ref q3, .ref q5, .ref q7, .int 0, .ref q9, .ref q11, .ref q13, .null])), (aI cI q1 40 (fun _ => 0)), (aI cI q3 40 (fun _ => 0)), (aI cI q5 40 (fun _ => 0)), (aI cI q7 40 (fun _ => 0)), (aI cI q9 200 (fun _ => 0)), (aI cI q11 200 (fun _ => 0)), (aI cI q13 20 (fun _ => 0))] H := hP
  replace hD : va_D A [(h0, .inr (3, [.ref q1, .ref q3, .ref q5, .ref q7, .int 0, .ref q9, .ref q11, .ref q13, .null])), (aI cI q1 40 (fun _ => 0)), (aI cI q3 40 (fun _ => 0)), (aI cI q5 40 (fun _ => 0)), (aI cI q7 40 (fun _ => 0)), (aI cI q9 200 (fun _ => 0)), (aI cI q11 200 (fun _ => 0)), (aI cI q13 20 (fun _ => 0))] := hD
  refine lv_aload_n hx hb dX3_init_62 rfl (lv_at hl 0 rfl) ?_
  refine lv_bipush (v := 10) hx hb dX3_init_63 (by decide) ?_
  refine va_newa (atype := .int) (ty := .int) (a0 := (10, .inl (fun _ => 0))) hx hb (hts (Cond.arrayClass .int) (wm_t (wm_l (wm_i 3 rfl)))) rfl hK hP hD hS hA (fun _ => rfl) (by decide) (by decide) (by decide) (Nat.le_of_ble_eq_true rfl) (Nat.le_of_ble_eq_true rfl) dX3_init_65 (fun q15 cA16 H => ?_)
  clear hK hP hD hS
  intro hK hP hD hS
  have ecA16 : cI = cA16 := cls_eq hK 0 4 rfl rfl
  subst ecA16
  replace hK : va_K D vwCl (ty4 cI cY cJ cQ) s := hK.sub (tys' := ty4 cI cY cJ cQ) [0, 1, 2, 3] rfl
  replace hP : va_P D vwCl [(h0, .inr (3, [.ref q1, .ref q3, .ref q5, .ref q7, .int 0, .ref q9, .ref q11, .ref q13, .null])), (aI cI q1 40 (fun _ => 0)), (aI cI q3 40 (fun _ => 0)), (aI cI q5 40 (fun _ => 0)), (aI cI q7 40 (fun _ => 0)), (aI cI q9 200 (fun _ => 0)), (aI cI q11 200 (fun _ => 0)), (aI cI q13 20 (fun _ => 0)), (aI cI q15 10 (fun _ => 0))] H := hP
  replace hD : va_D A [(h0, .inr (3, [.ref q1, .ref q3, .ref q5, .ref q7, .int 0, .ref q9, .ref q11, .ref q13, .null])), (aI cI q1 40 (fun _ => 0)), (aI cI q3 40 (fun _ => 0)), (aI cI q5 40 (fun _ => 0)), (aI cI q7 40 (fun _ => 0)), (aI cI q9 200 (fun _ => 0)), (aI cI q11 200 (fun _ => 0)), (aI cI q13 20 (fun _ => 0)), (aI cI q15 10 (fun _ => 0))] := hD
  refine W.widen (k := 8) (n := 590) (by first | exact Nat.le_of_ble_eq_true rfl | omega) (by first | exact Nat.le_of_ble_eq_true rfl | omega) ?_
  refine va_putF (D := D) (ci := 3) (v := .ref q15) (ty := (.array .int)) (C := RX3) (T := TX3) (N := 9) hx hb hts inX3_init_X3 tyX3 tyX3_ok nmX3 hown hK hP hD hS 0 rfl rfl 8 (by decide) (hts (Cond.fieldLink RX3 33 "PortRooms$Holdings" "reach" "[I") (wm_t (wm_l (wm_i 11 rfl)))) (fun _ h9 => h9) rfl hin rfl (tyX3_ok 8 (by decide)) rfl rfl (Nat.le_of_ble_eq_true rfl) dX3_init_67 (fun H locs => ?_)
  clear hP hD hS
  intro hP hD hS
  replace hP : va_P D vwCl [(h0, .inr (3, [.ref q1, .ref q3, .ref q5, .ref q7, .int 0, .ref q9, .ref q11, .ref q13, .ref q15])), (aI cI q1 40 (fun _ => 0)), (aI cI q3 40 (fun _ => 0)), (aI cI q5 40 (fun _ => 0)), (aI cI q7 40 (fun _ => 0)), (aI cI q9 200 (fun _ => 0)), (aI cI q11 200 (fun _ => 0)), (aI cI q13 20 (fun _ => 0)), (aI cI q15 10 (fun _ => 0))] H := hP
  replace hD : va_D A [(h0, .inr (3, [.ref q1, .ref q3, .ref q5, .ref q7, .int 0, .ref q9, .ref q11, .ref q13, .ref q15])), (aI cI q1 40 (fun _ => 0)), (aI cI q3 40 (fun _ => 0)), (aI cI q5 40 (fun _ => 0)), (aI cI q7 40 (fun _ => 0)), (aI cI q9 200 (fun _ => 0)), (aI cI q11 200 (fun _ => 0)), (aI cI q13 20 (fun _ => 0)), (aI cI q15 10 (fun _ => 0))] := hD
  have hP9 := hP.sub (ws' := [(h0, .inr (3, [.ref q1, .ref q3, .ref q5, .ref q7, .int 0, .ref q9, .ref q11, .ref q13, .ref q15])), (aI cI q1 40 (fun _ => 0)), (aI cI q3 40 (fun _ => 0)), (aI cI q5 40 (fun _ => 0)), (aI cI q7 40 (fun _ => 0)), (aI cI q9 200 (fun _ => 0)), (aI cI q11 200 (fun _ => 0)), (aI cI q13 20 (fun _ => 0)), (aI cI q15 10 (fun _ => 0))]) [0, 1, 2, 3, 4, 5, 6, 7, 8] rfl
  have hD9 := hD.sub (ws' := [(h0, .inr (3, [.ref q1, .ref q3, .ref q5, .ref q7, .int 0, .ref q9, .ref q11, .ref q13, .ref q15])), (aI cI q1 40 (fun _ => 0)), (aI cI q3 40 (fun _ => 0)), (aI cI q5 40 (fun _ => 0)), (aI cI q7 40 (fun _ => 0)), (aI cI q9 200 (fun _ => 0)), (aI cI q11 200 (fun _ => 0)), (aI cI q13 20 (fun _ => 0)), (aI cI q15 10 (fun _ => 0))]) [0, 1, 2, 3, 4, 5, 6, 7, 8] (by decide +kernel) rfl
  exact W.vret hx hb hr (fun t ht hW => ⟨⟨(fun k => ([q1, q3, q5, q7, 0, q9, q11, q13, q15] : List Nat).getD k 0), rfl, trivial, by rw [ht]; exact hP9, va_K.moved hW.alike hK, hD9⟩, hS.F ht⟩) hS.2.2 dX3_init_70

set_option maxHeartbeats 4000000 in
set_option maxRecDepth 100000 in
theorem ct_X1_init (l : Launch) (D : va_G) (cI cY cJ cQ : ClassId) (sz : Nat) (h0 : Nat)   : Met l yX1_init wsX1_init ({ frames := 1, cells := 5, slots := 48, locals := 23 }) (cPre D (ty4 cI cY cJ cQ) [(h0, .inr (1, [.null, .null, .null, .int 0, .null, .null]))] sz [.ref h0]) (va_Qv (fun (u : Nat → Nat) => True) (cB D (ty4 cI cY cJ cQ) (fun (u : Nat → Nat) => [(h0, .inr (1, [.ref (u 0), .ref (u 1), .ref (u 2), .int 0, .ref (u 4), .ref (u 5)])), (aI cI (u 0) 12 (fun _ => 0)), (aI cI (u 1) 12 (fun _ => 0)), (aI cI (u 2) 12 (fun _ => (-1000000))), (aI cI (u 4) 6 (fun _ => 4)), (aI cI (u 5) 6 (fun _ => 100000))]) (va_A [(h0, .inr (1, [.null, .null, .null, .int 0, .null, .null]))] sz)) (va_A [(h0, .inr (1, [.null, .null, .null, .int 0, .null, .null]))] sz)) 5 48 (va_A [(h0, .inr (1, [.null, .null, .null, .int 0, .null, .null]))] sz) := by
  refine Met.ofW (cc := cX1_init) (maxL := 1) (ret := none) (by decide) rfl ?_
  intro p e s m args below meth c s₁ B hml hv
  obtain ⟨rfl, hsz, hP, hK, hD0, hN⟩ := hv
  have hx := B.exec
  have hb := B.bytes
  have hr := B.returns
  have hts := atoms_spec (ws := wsX1_init) B.pre
  have hown : s.vm.findClass RX1 = some m.cls := findClass_of_methodNamed B.named
  have hlocks := B.notSynchronized
  have hin : meth.name = "<init>" := (name_of_methodNamed B.named B.method).1
  subst hsz
  have hD := hD0.self (sz := s.heap.size)
  generalize hAe : va_A [(h0, .inr (1, [.null, .null, .null, .int 0, .null, .null]))] s.heap.size = A at hD ⊢
  have hA : ∀ q : Nat, s.heap.size ≤ q → A q := fun q h => by rw [← hAe]; exact Or.inr h
  have hS : va_S A s.heap s.heap [] := va_S.rf
  have hP : va_P D vwCl [(h0, .inr (1, [.null, .null, .null, .int 0, .null, .null]))] s.heap := hP
  have hl := lv_entry ([.ref h0]) (n := 1) (Nat.le_of_ble_eq_true rfl)
  rw [lg_entry_eq]
  generalize (lg_sl ([.ref h0]) ++ List.replicate (1 - (lg_sl ([.ref h0])).length) Slot.unset).toArray = ls at hl ⊢
  have hl : lv_has ls 1 [(0, .ref h0)] := hl
  have km1000000 : (-1000000 : Int32).toInt = -1000000 := by decide
  have k4 : (4 : Int32).toInt = 4 := by decide
  have k100000 : (100000 : Int32).toInt = 100000 := by decide
  refine lv_aload_n hx hb dX1_init_0 rfl (lv_at hl 0 rfl) ?_
  refine W.objInit hx hb hown (hts (Cond.methodLink RX1 3 objectInit) (wm_t (wm_l (wm_i 0 rfl)))) (hts (Cond.instanceMethod objectInit) (wm_t (wm_l (wm_i 1 rfl)))) (hts _ (by decide +kernel)) rfl (by rw [hml]; exact hl.1) rfl dX1_init_1 (Nat.le_of_ble_eq_true rfl) (Nat.le_of_ble_eq_true rfl) ?_
  refine W.eq (g2 := F0 m 4 ls []) rfl ?_
  refine lv_aload_n hx hb dX1_init_4 rfl (lv_at hl 0 rfl) ?_
  refine lv_bipush (v := 12) hx hb dX1_init_5 (by decide) ?_
  refine va_newa (atype := .int) (ty := .int) (a0 := (12, .inl (fun _ => 0))) hx hb (hts (Cond.arrayClass .int) (wm_t (wm_l (wm_i 3 rfl)))) rfl hK hP hD hS hA (fun _ => rfl) (by decide) (by decide) (by decide) (Nat.le_of_ble_eq_true rfl) (Nat.le_of_ble_eq_true rfl) dX1_init_7 (fun q1 cA2 H => ?_)
  clear hK hP hD hS
  intro hK hP hD hS
  have ecA2 : cI = cA2 := cls_eq hK 0 4 rfl rfl
  subst ecA2
  replace hK : va_K D vwCl (ty4 cI cY cJ cQ) s := hK.sub (tys' := ty4 cI cY cJ cQ) [0, 1, 2, 3] rfl
  replace hP : va_P D vwCl [(h0, .inr (1, [.null, .null, .null, .int 0, .null, .null])), (aI cI q1 12 (fun _ => 0))] H := hP
  replace hD : va_D A [(h0, .inr (1, [.null, .null, .null, .int 0, .null, .null])), (aI cI q1 12 (fun _ => 0))] := hD
  refine W.widen (k := 1) (n := 12) (by first | exact Nat.le_of_ble_eq_true rfl | omega) (by first | exact Nat.le_of_ble_eq_true rfl | omega) ?_
  refine va_putF (D := D) (ci := 1) (v := .ref q1) (ty := (.array .int)) (C := RX1) (T := TX1) (N := 6) hx hb hts inX1_init_X1 tyX1 tyX1_ok nmX1 hown hK hP hD hS 0 rfl rfl 0 (by decide) (hts (Cond.fieldLink RX1 9 "PortRooms$Crates" "firstOwner" "[I") (wm_t (wm_l (wm_i 4 rfl)))) (fun _ h9 => h9) rfl hin rfl (tyX1_ok 0 (by decide)) rfl rfl (Nat.le_of_ble_eq_true rfl) dX1_init_9 (fun H locs => ?_)
  clear hP hD hS
  intro hP hD hS
  replace hP : va_P D vwCl [(h0, .inr (1, [.ref q1, .null, .null, .int 0, .null, .null])), (aI cI q1 12 (fun _ => 0))] H := hP
  replace hD : va_D A [(h0, .inr (1, [.ref q1, .null, .null, .int 0, .null, .null])), (aI cI q1 12 (fun _ => 0))] := hD
  refine lv_aload_n hx hb dX1_init_12 rfl (lv_at hl 0 rfl) ?_
  refine lv_bipush (v := 12) hx hb dX1_init_13 (by decide) ?_
  refine va_newa (atype := .int) (ty := .int) (a0 := (12, .inl (fun _ => 0))) hx hb (hts (Cond.arrayClass .int) (wm_t (wm_l (wm_i 3 rfl)))) rfl hK hP hD hS hA (fun _ => rfl) (by decide) (by decide) (by decide) (Nat.le_of_ble_eq_true rfl) (Nat.le_of_ble_eq_true rfl) dX1_init_15 (fun q3 cA4 H => ?_)
  clear hK hP hD hS
  intro hK hP hD hS
  have ecA4 : cI = cA4 := cls_eq hK 0 4 rfl rfl
  subst ecA4
  replace hK : va_K D vwCl (ty4 cI cY cJ cQ) s := hK.sub (tys' := ty4 cI cY cJ cQ) [0, 1, 2, 3] rfl
  replace hP : va_P D vwCl [(h0, .inr (1, [.ref q1, .null, .null, .int 0, .null, .null])), (aI cI q1 12 (fun _ => 0)), (aI cI q3 12 (fun _ => 0))] H := hP
  replace hD : va_D A [(h0, .inr (1, [.ref q1, .null, .null, .int 0, .null, .null])), (aI cI q1 12 (fun _ => 0)), (aI cI q3 12 (fun _ => 0))] := hD
  refine W.widen (k := 2) (n := 24) (by first | exact Nat.le_of_ble_eq_true rfl | omega) (by first | exact Nat.le_of_ble_eq_true rfl | omega) ?_
  refine va_putF (D := D) (ci := 1) (v := .ref q3) (ty := (.array .int)) (C := RX1) (T := TX1) (N := 6) hx hb hts inX1_init_X1 tyX1 tyX1_ok nmX1 hown hK hP hD hS 0 rfl rfl 1 (by decide) (hts (Cond.fieldLink RX1 15 "PortRooms$Crates" "worth" "[I") (wm_t (wm_l (wm_i 5 rfl)))) (fun _ h9 => h9) rfl hin rfl (tyX1_ok 1 (by decide)) rfl rfl (Nat.le_of_ble_eq_true rfl) dX1_init_17 (fun H locs => ?_)
  clear hP hD hS
  intro hP hD hS
  replace hP : va_P D vwCl [(h0, .inr (1, [.ref q1, .ref q3, .null, .int 0, .null, .null])), (aI cI q1 12 (fun _ => 0)), (aI cI q3 12 (fun _ => 0))] H := hP
  replace hD : va_D A [(h0, .inr (1, [.ref q1, .ref q3, .null, .int 0, .null, .null])), (aI cI q1 12 (fun _ => 0)), (aI cI q3 12 (fun _ => 0))] := hD
  refine lv_aload_n hx hb dX1_init_20 rfl (lv_at hl 0 rfl) ?_
  refine lv_bipush (v := 12) hx hb dX1_init_21 (by decide) ?_
  refine va_newa (atype := .int) (ty := .int) (a0 := (12, .inl (fun _ => 0))) hx hb (hts (Cond.arrayClass .int) (wm_t (wm_l (wm_i 3 rfl)))) rfl hK hP hD hS hA (fun _ => rfl) (by decide) (by decide) (by decide) (Nat.le_of_ble_eq_true rfl) (Nat.le_of_ble_eq_true rfl) dX1_init_23 (fun q5 cA6 H => ?_)
  clear hK hP hD hS
  intro hK hP hD hS
  have ecA6 : cI = cA6 := cls_eq hK 0 4 rfl rfl
  subst ecA6
  replace hK : va_K D vwCl (ty4 cI cY cJ cQ) s := hK.sub (tys' := ty4 cI cY cJ cQ) [0, 1, 2, 3] rfl
  replace hP : va_P D vwCl [(h0, .inr (1, [.ref q1, .ref q3, .null, .int 0, .null, .null])), (aI cI q1 12 (fun _ => 0)), (aI cI q3 12 (fun _ => 0)), (aI cI q5 12 (fun _ => 0))] H := hP
  replace hD : va_D A [(h0, .inr (1, [.ref q1, .ref q3, .null, .int 0, .null, .null])), (aI cI q1 12 (fun _ => 0)), (aI cI q3 12 (fun _ => 0)), (aI cI q5 12 (fun _ => 0))] := hD
  refine W.widen (k := 3) (n := 36) (by first | exact Nat.le_of_ble_eq_true rfl | omega) (by first | exact Nat.le_of_ble_eq_true rfl | omega) ?_
  refine va_putF (D := D) (ci := 1) (v := .ref q5) (ty := (.array .int)) (C := RX1) (T := TX1) (N := 6) hx hb hts inX1_init_X1 tyX1 tyX1_ok nmX1 hown hK hP hD hS 0 rfl rfl 2 (by decide) (hts (Cond.fieldLink RX1 18 "PortRooms$Crates" "room" "[I") (wm_t (wm_l (wm_i 6 rfl)))) (fun _ h9 => h9) rfl hin rfl (tyX1_ok 2 (by decide)) rfl rfl (Nat.le_of_ble_eq_true rfl) dX1_init_25 (fun H locs => ?_)
  clear hP hD hS
  intro hP hD hS
  replace hP : va_P D vwCl [(h0, .inr (1, [.ref q1, .ref q3, .ref q5, .int 0, .null, .null])), (aI cI q1 12 (fun _ => 0)), (aI cI q3 12 (fun _ => 0)), (aI cI q5 12 (fun _ => 0))] H := hP
  replace hD : va_D A [(h0, .inr (1, [.ref q1, .ref q3, .ref q5, .int 0, .null, .null])), (aI cI q1 12 (fun _ => 0)), (aI cI q3 12 (fun _ => 0)), (aI cI q5 12 (fun _ => 0))] := hD
  refine lv_aload_n hx hb dX1_init_28 rfl (lv_at hl 0 rfl) ?_
  refine lv_bipush (v := 6) hx hb dX1_init_29 (by decide) ?_
  refine va_newa (atype := .int) (ty := .int) (a0 := (6, .inl (fun _ => 0))) hx hb (hts (Cond.arrayClass .int) (wm_t (wm_l (wm_i 3 rfl)))) rfl hK hP hD hS hA (fun _ => rfl) (by decide) (by decide) (by decide) (Nat.le_of_ble_eq_true rfl) (Nat.le_of_ble_eq_true rfl) dX1_init_31 (fun q7 cA8 H => ?_)
  clear hK hP hD hS
  intro hK hP hD hS
  have ecA8 : cI = cA8 := cls_eq hK 0 4 rfl rfl
  subst ecA8
  replace hK : va_K D vwCl (ty4 cI cY cJ cQ) s := hK.sub (tys' := ty4 cI cY cJ cQ) [0, 1, 2, 3] rfl
  replace hP : va_P D vwCl [(h0, .inr (1, [.ref q1, .ref q3, .ref q5, .int 0, .null, .null])), (aI cI q1 12 (fun _ => 0)), (aI cI q3 12 (fun _ => 0)), (aI cI q5 12 (fun _ => 0)), (aI cI q7 6 (fun _ => 0))] H := hP
  replace hD : va_D A [(h0, .inr (1, [.ref q1, .ref q3, .ref q5, .int 0, .null, .null])), (aI cI q1 12 (fun _ => 0)), (aI cI q3 12 (fun _ => 0)), (aI cI q5 12 (fun _ => 0)), (aI cI q7 6 (fun _ => 0))] := hD
  refine W.widen (k := 4) (n := 42) (by first | exact Nat.le_of_ble_eq_true rfl | omega) (by first | exact Nat.le_of_ble_eq_true rfl | omega) ?_
  refine va_putF (D := D) (ci := 1) (v := .ref q7) (ty := (.array .int)) (C := RX1) (T := TX1) (N := 6) hx hb hts inX1_init_X1 tyX1 tyX1_ok nmX1 hown hK hP hD hS 0 rfl rfl 4 (by decide) (hts (Cond.fieldLink RX1 21 "PortRooms$Crates" "air" "[I") (wm_t (wm_l (wm_i 7 rfl)))) (fun _ h9 => h9) rfl hin rfl (tyX1_ok 4 (by decide)) rfl rfl (Nat.le_of_ble_eq_true rfl) dX1_init_33 (fun H locs => ?_)
  clear hP hD hS
  intro hP hD hS
  replace hP : va_P D vwCl [(h0, .inr (1, [.ref q1, .ref q3, .ref q5, .int 0, .ref q7, .null])), (aI cI q1 12 (fun _ => 0)), (aI cI q3 12 (fun _ => 0)), (aI cI q5 12 (fun _ => 0)), (aI cI q7 6 (fun _ => 0))] H := hP
  replace hD : va_D A [(h0, .inr (1, [.ref q1, .ref q3, .ref q5, .int 0, .ref q7, .null])), (aI cI q1 12 (fun _ => 0)), (aI cI q3 12 (fun _ => 0)), (aI cI q5 12 (fun _ => 0)), (aI cI q7 6 (fun _ => 0))] := hD
  refine lv_aload_n hx hb dX1_init_36 rfl (lv_at hl 0 rfl) ?_
  refine lv_bipush (v := 6) hx hb dX1_init_37 (by decide) ?_
  refine va_newa (atype := .int) (ty := .int) (a0 := (6, .inl (fun _ => 0))) hx hb (hts (Cond.arrayClass .int) (wm_t (wm_l (wm_i 3 rfl)))) rfl hK hP hD hS hA (fun _ => rfl) (by decide) (by decide) (by decide) (Nat.le_of_ble_eq_true rfl) (Nat.le_of_ble_eq_true rfl) dX1_init_39 (fun q9 cA10 H => ?_)
  clear hK hP hD hS
  intro hK hP hD hS
  have ecA10 : cI = cA10 := cls_eq hK 0 4 rfl rfl
  subst ecA10
  replace hK : va_K D vwCl (ty4 cI cY cJ cQ) s := hK.sub (tys' := ty4 cI cY cJ cQ) [0, 1, 2, 3] rfl
  replace hP : va_P D vwCl [(h0, .inr (1, [.ref q1, .ref q3, .ref q5, .int 0, .ref q7, .null])), (aI cI q1 12 (fun _ => 0)), (aI cI q3 12 (fun _ => 0)), (aI cI q5 12 (fun _ => 0)), (aI cI q7 6 (fun _ => 0)), (aI cI q9 6 (fun _ => 0))] H := hP
  replace hD : va_D A [(h0, .inr (1, [.ref q1, .ref q3, .ref q5, .int 0, .ref q7, .null])), (aI cI q1 12 (fun _ => 0)), (aI cI q3 12 (fun _ => 0)), (aI cI q5 12 (fun _ => 0)), (aI cI q7 6 (fun _ => 0)), (aI cI q9 6 (fun _ => 0))] := hD
  refine W.widen (k := 5) (n := 48) (by first | exact Nat.le_of_ble_eq_true rfl | omega) (by first | exact Nat.le_of_ble_eq_true rfl | omega) ?_
  refine va_putF (D := D) (ci := 1) (v := .ref q9) (ty := (.array .int)) (C := RX1) (T := TX1) (N := 6) hx hb hts inX1_init_X1 tyX1 tyX1_ok nmX1 hown hK hP hD hS 0 rfl rfl 5 (by decide) (hts (Cond.fieldLink RX1 24 "PortRooms$Crates" "insured" "[I") (wm_t (wm_l (wm_i 8 rfl)))) (fun _ h9 => h9) rfl hin rfl (tyX1_ok 5 (by decide)) rfl rfl (Nat.le_of_ble_eq_true rfl) dX1_init_41 (fun H locs => ?_)
  clear hP hD hS
  intro hP hD hS
  replace hP : va_P D vwCl [(h0, .inr (1, [.ref q1, .ref q3, .ref q5, .int 0, .ref q7, .ref q9])), (aI cI q1 12 (fun _ => 0)), (aI cI q3 12 (fun _ => 0)), (aI cI q5 12 (fun _ => 0)), (aI cI q7 6 (fun _ => 0)), (aI cI q9 6 (fun _ => 0))] H := hP
  replace hD : va_D A [(h0, .inr (1, [.ref q1, .ref q3, .ref q5, .int 0, .ref q7, .ref q9])), (aI cI q1 12 (fun _ => 0)), (aI cI q3 12 (fun _ => 0)), (aI cI q5 12 (fun _ => 0)), (aI cI q7 6 (fun _ => 0)), (aI cI q9 6 (fun _ => 0))] := hD
  refine lv_aload_n hx hb dX1_init_44 rfl (lv_at hl 0 rfl) ?_
  refine va_get (D := D) (ci := 1) (v := .ref q5) (C := RX1) (T := TX1) (N := 6) hx hb hts inX1_init_X1 hown hK hP 0 rfl rfl 2 (by decide) (hts (Cond.fieldLink RX1 18 "PortRooms$Crates" "room" "[I") (wm_t (wm_l (wm_i 6 rfl)))) (fun _ h9 => h9) rfl dX1_init_45 ?_
  refine lv_ldc hx hb hown (hts (Cond.constant RX1 27 (-1000000)) (wm_t (wm_l (wm_i 9 rfl)))) dX1_init_48 ?_
  refine st_v (wr := [(h0, .inr (1, [.ref q1, .ref q3, .ref q5, .int 0, .ref q7, .ref q9])), (aI cI q1 12 (fun _ => 0)), (aI cI q3 12 (fun _ => 0)), (aI cI q7 6 (fun _ => 0)), (aI cI q9 6 (fun _ => 0))]) (va_runS (As := [.ref q5, .int (-1000000)]) (rest := []) ⟨hx, hb, hml, hown, hts⟩ (cFill l D cI cY cJ cQ _ q5 12 (fun _ => 0) ((-1000000) : Int32) (by decide)) (va_cwS 2 hts gX1_init_J7_fill_53178 rfl rfl rfl cdJ7_fill_53178 ⟨Nat.le_of_ble_eq_true rfl, Nat.le_of_ble_eq_true rfl⟩) (cPreS (hP.sub [3] rfl) hK (hD.sub [3] (by decide +kernel) rfl) hN) rfl rfl hl.1 rfl (lv_room (Nat.le_of_ble_eq_true rfl)) dX1_init_50 ⟨Nat.le_of_ble_eq_true rfl, Nat.le_of_ble_eq_true rfl⟩) hP hD hS hA [3] [0, 1, 2, 4, 5] rfl rfl (by decide +kernel) (by decide +kernel) (fun u11 H locs hw12 => ?_)
  clear hP hD hS
  intro hP hD hS
  replace hP : va_P D vwCl [(h0, .inr (1, [.ref q1, .ref q3, .ref q5, .int 0, .ref q7, .ref q9])), (aI cI q1 12 (fun _ => 0)), (aI cI q3 12 (fun _ => 0)), (aI cI q7 6 (fun _ => 0)), (aI cI q9 6 (fun _ => 0)), (aI cI q5 12 (fun _ => (-1000000)))] H := hP
  replace hD : va_D A [(h0, .inr (1, [.ref q1, .ref q3, .ref q5, .int 0, .ref q7, .ref q9])), (aI cI q1 12 (fun _ => 0)), (aI cI q3 12 (fun _ => 0)), (aI cI q7 6 (fun _ => 0)), (aI cI q9 6 (fun _ => 0)), (aI cI q5 12 (fun _ => (-1000000)))] := hD
  refine lv_aload_n hx hb dX1_init_53 rfl (lv_at hl 0 rfl) ?_
  refine va_get (D := D) (ci := 1) (v := .ref q7) (C := RX1) (T := TX1) (N := 6) hx hb hts inX1_init_X1 hown hK hP 0 rfl rfl 4 (by decide) (hts (Cond.fieldLink RX1 21 "PortRooms$Crates" "air" "[I") (wm_t (wm_l (wm_i 7 rfl)))) (fun _ h9 => h9) rfl dX1_init_54 ?_
  refine lv_iconst (v := 4) hx hb dX1_init_57 (by decide) ?_
  refine st_v (wr := [(h0, .inr (1, [.ref q1, .ref q3, .ref q5, .int 0, .ref q7, .ref q9])), (aI cI q1 12 (fun _ => 0)), (aI cI q3 12 (fun _ => 0)), (aI cI q9 6 (fun _ => 0)), (aI cI q5 12 (fun _ => (-1000000)))]) (va_runS (As := [.ref q7, .int 4]) (rest := []) ⟨hx, hb, hml, hown, hts⟩ (cFill l D cI cY cJ cQ _ q7 6 (fun _ => 0) (4 : Int32) (by decide)) (va_cwS 2 hts gX1_init_J7_fill_53178 rfl rfl rfl cdJ7_fill_53178 ⟨Nat.le_of_ble_eq_true rfl, Nat.le_of_ble_eq_true rfl⟩) (cPreS (hP.sub [3] rfl) hK (hD.sub [3] (by decide +kernel) rfl) hN) rfl rfl hl.1 rfl (lv_room (Nat.le_of_ble_eq_true rfl)) dX1_init_58 ⟨Nat.le_of_ble_eq_true rfl, Nat.le_of_ble_eq_true rfl⟩) hP hD hS hA [3] [0, 1, 2, 4, 5] rfl rfl (by decide +kernel) (by decide +kernel) (fun u14 H locs hw15 => ?_)
  clear hP hD hS
  intro hP hD hS
  replace hP : va_P D vwCl [(h0, .inr (1, [.ref q1, .ref q3, .ref q5, .int 0, .ref q7, .ref q9])), (aI cI q1 12 (fun _ => 0)), (aI cI q3 12 (fun _ => 0)), (aI cI q9 6 (fun _ => 0)), (aI cI q5 12 (fun _ => (-1000000))), (aI cI q7 6 (fun _ => 4))] H := hP
  replace hD : va_D A [(h0, .inr (1, [.ref q1, .ref q3, .ref q5, .int 0, .ref q7, .ref q9])), (aI cI q1 12 (fun _ => 0)), (aI cI q3 12 (fun _ => 0)), (aI cI q9 6 (fun _ => 0)), (aI cI q5 12 (fun _ => (-1000000))), (aI cI q7 6 (fun _ => 4))] := hD
  refine lv_aload_n hx hb dX1_init_61 rfl (lv_at hl 0 rfl) ?_
  refine va_get (D := D) (ci := 1) (v := .ref q9) (C := RX1) (T := TX1) (N := 6) hx hb hts inX1_init_X1 hown hK hP 0 rfl rfl 5 (by decide) (hts (Cond.fieldLink RX1 24 "PortRooms$Crates" "insured" "[I") (wm_t (wm_l (wm_i 8 rfl)))) (fun _ h9 => h9) rfl dX1_init_62 ?_
  refine lv_ldc hx hb hown (hts (Cond.constant RX1 34 (100000)) (wm_t (wm_l (wm_i 10 rfl)))) dX1_init_65 ?_
  refine st_v (wr := [(h0, .inr (1, [.ref q1, .ref q3, .ref q5, .int 0, .ref q7, .ref q9])), (aI cI q1 12 (fun _ => 0)), (aI cI q3 12 (fun _ => 0)), (aI cI q5 12 (fun _ => (-1000000))), (aI cI q7 6 (fun _ => 4))]) (va_runS (As := [.ref q9, .int 100000]) (rest := []) ⟨hx, hb, hml, hown, hts⟩ (cFill l D cI cY cJ cQ _ q9 6 (fun _ => 0) (100000 : Int32) (by decide)) (va_cwS 2 hts gX1_init_J7_fill_53178 rfl rfl rfl cdJ7_fill_53178 ⟨Nat.le_of_ble_eq_true rfl, Nat.le_of_ble_eq_true rfl⟩) (cPreS (hP.sub [3] rfl) hK (hD.sub [3] (by decide +kernel) rfl) hN) rfl rfl hl.1 rfl (lv_room (Nat.le_of_ble_eq_true rfl)) dX1_init_67 ⟨Nat.le_of_ble_eq_true rfl, Nat.le_of_ble_eq_true rfl⟩) hP hD hS hA [3] [0, 1, 2, 4, 5] rfl rfl (by decide +kernel) (by decide +kernel) (fun u17 H locs hw18 => ?_)
  clear hP hD hS
  intro hP hD hS
  replace hP : va_P D vwCl [(h0, .inr (1, [.ref q1, .ref q3, .ref q5, .int 0, .ref q7, .ref q9])), (aI cI q1 12 (fun _ => 0)), (aI cI q3 12 (fun _ => 0)), (aI cI q5 12 (fun _ => (-1000000))), (aI cI q7 6 (fun _ => 4)), (aI cI q9 6 (fun _ => 100000))] H := hP
  replace hD : va_D A [(h0, .inr (1, [.ref q1, .ref q3, .ref q5, .int 0, .ref q7, .ref q9])), (aI cI q1 12 (fun _ => 0)), (aI cI q3 12 (fun _ => 0)), (aI cI q5 12 (fun _ => (-1000000))), (aI cI q7 6 (fun _ => 4)), (aI cI q9 6 (fun _ => 100000))] := hD
  have hP9 := hP.sub (ws' := [(h0, .inr (1, [.ref q1, .ref q3, .ref q5, .int 0, .ref q7, .ref q9])), (aI cI q1 12 (fun _ => 0)), (aI cI q3 12 (fun _ => 0)), (aI cI q5 12 (fun _ => (-1000000))), (aI cI q7 6 (fun _ => 4)), (aI cI q9 6 (fun _ => 100000))]) [0, 1, 2, 3, 4, 5] rfl
  have hD9 := hD.sub (ws' := [(h0, .inr (1, [.ref q1, .ref q3, .ref q5, .int 0, .ref q7, .ref q9])), (aI cI q1 12 (fun _ => 0)), (aI cI q3 12 (fun _ => 0)), (aI cI q5 12 (fun _ => (-1000000))), (aI cI q7 6 (fun _ => 4)), (aI cI q9 6 (fun _ => 100000))]) [0, 1, 2, 3, 4, 5] (by decide +kernel) rfl
  exact W.vret hx hb hr (fun t ht hW => ⟨⟨(fun k => ([q1, q3, q5, 0, q7, q9] : List Nat).getD k 0), rfl, trivial, by rw [ht]; exact hP9, va_K.moved hW.alike hK, hD9⟩, hS.F ht⟩) hS.2.2 dX1_init_70

set_option maxHeartbeats 4000000 in
set_option maxRecDepth 100000 in
theorem ct_X7_init (l : Launch) (D : va_G) (cI cY cJ cQ : ClassId) (sz : Nat) (h0 : Nat)   : Met l yX7_init wsX7_init ({ frames := 1, cells := 6, slots := 240, locals := 12 }) (cPre D (ty4 cI cY cJ cQ) [(h0, .inr (7, [.null, .null, .null, .null, .null, .null, .int 0]))] sz [.ref h0]) (va_Qv (fun (u : Nat → Nat) => True) (cB D (ty4 cI cY cJ cQ) (fun (u : Nat → Nat) => [(h0, .inr (7, [.ref (u 0), .ref (u 1), .ref (u 2), .ref (u 3), .ref (u 4), .ref (u 5), .int 0])), (aI cI (u 0) 40 (fun _ => 0)), (aI cI (u 1) 40 (fun _ => 0)), (aI cI (u 2) 40 (fun _ => 0)), (aI cI (u 3) 40 (fun _ => 0)), (aI cI (u 4) 40 (fun _ => 0)), (aI cI (u 5) 40 (fun _ => 0))]) (va_A [(h0, .inr (7, [.null, .null, .null, .null, .null, .null, .int 0]))] sz)) (va_A [(h0, .inr (7, [.null, .null, .null, .null, .null, .null, .int 0]))] sz)) 6 240 (va_A [(h0, .inr (7, [.null, .null, .null, .null, .null, .null, .int 0]))] sz) := by
  refine Met.ofW (cc := cX7_init) (maxL := 1) (ret := none) (by decide) rfl ?_
  intro p e s m args below meth c s₁ B hml hv
  obtain ⟨rfl, hsz, hP, hK, hD0, hN⟩ := hv
  have hx := B.exec
  have hb := B.bytes
  have hr := B.returns
  have hts := atoms_spec (ws := wsX7_init) B.pre
  have hown : s.vm.findClass RX7 = some m.cls := findClass_of_methodNamed B.named
  have hlocks := B.notSynchronized
  have hin : meth.name = "<init>" := (name_of_methodNamed B.named B.method).1
  subst hsz
  have hD := hD0.self (sz := s.heap.size)
  generalize hAe : va_A [(h0, .inr (7, [.null, .null, .null, .null, .null, .null, .int 0]))] s.heap.size = A at hD ⊢
  have hA : ∀ q : Nat, s.heap.size ≤ q → A q := fun q h => by rw [← hAe]; exact Or.inr h
  have hS : va_S A s.heap s.heap [] := va_S.rf
  have hP : va_P D vwCl [(h0, .inr (7, [.null, .null, .null, .null, .null, .null, .int 0]))] s.heap := hP
  have hl := lv_entry ([.ref h0]) (n := 1) (Nat.le_of_ble_eq_true rfl)
  rw [lg_entry_eq]
  generalize (lg_sl ([.ref h0]) ++ List.replicate (1 - (lg_sl ([.ref h0])).length) Slot.unset).toArray = ls at hl ⊢
  have hl : lv_has ls 1 [(0, .ref h0)] := hl
  refine lv_aload_n hx hb dX7_init_0 rfl (lv_at hl 0 rfl) ?_
  refine W.objInit hx hb hown (hts (Cond.methodLink RX7 3 objectInit) (wm_t (wm_l (wm_i 0 rfl)))) (hts (Cond.instanceMethod objectInit) (wm_t (wm_l (wm_i 1 rfl)))) (hts _ (by decide +kernel)) rfl (by rw [hml]; exact hl.1) rfl dX7_init_1 (Nat.le_of_ble_eq_true rfl) (Nat.le_of_ble_eq_true rfl) ?_
  refine W.eq (g2 := F0 m 4 ls []) rfl ?_
  refine lv_aload_n hx hb dX7_init_4 rfl (lv_at hl 0 rfl) ?_
  refine lv_bipush (v := 40) hx hb dX7_init_5 (by decide) ?_
  refine va_newa (atype := .int) (ty := .int) (a0 := (40, .inl (fun _ => 0))) hx hb (hts (Cond.arrayClass .int) (wm_t (wm_l (wm_i 3 rfl)))) rfl hK hP hD hS hA (fun _ => rfl) (by decide) (by decide) (by decide) (Nat.le_of_ble_eq_true rfl) (Nat.le_of_ble_eq_true rfl) dX7_init_7 (fun q1 cA2 H => ?_)
  clear hK hP hD hS
  intro hK hP hD hS
  have ecA2 : cI = cA2 := cls_eq hK 0 4 rfl rfl
  subst ecA2
  replace hK : va_K D vwCl (ty4 cI cY cJ cQ) s := hK.sub (tys' := ty4 cI cY cJ cQ) [0, 1, 2, 3] rfl
  replace hP : va_P D vwCl [(h0, .inr (7, [.null, .null, .null, .null, .null, .null, .int 0])), (aI cI q1 40 (fun _ => 0))] H := hP
  replace hD : va_D A [(h0, .inr (7, [.null, .null, .null, .null, .null, .null, .int 0])), (aI cI q1 40 (fun _ => 0))] := hD
  refine W.widen (k := 1) (n := 40) (by first | exact Nat.le_of_ble_eq_true rfl | omega) (by first | exact Nat.le_of_ble_eq_true rfl | omega) ?_
  refine va_putF (D := D) (ci := 7) (v := .ref q1) (ty := (.array .int)) (C := RX7) (T := TX7) (N := 7) hx hb hts inX7_init_X7 tyX7 tyX7_ok nmX7 hown hK hP hD hS 0 rfl rfl 0 (by decide) (hts (Cond.fieldLink RX7 9 "PortRooms$Papers" "crate" "[I") (wm_t (wm_l (wm_i 4 rfl)))) (fun _ h9 => h9) rfl hin rfl (tyX7_ok 0 (by decide)) rfl rfl (Nat.le_of_ble_eq_true rfl) dX7_init_9 (fun H locs => ?_)
  clear hP hD hS
  intro hP hD hS
  replace hP : va_P D vwCl [(h0, .inr (7, [.ref q1, .null, .null, .null, .null, .null, .int 0])), (aI cI q1 40 (fun _ => 0))] H := hP
  replace hD : va_D A [(h0, .inr (7, [.ref q1, .null, .null, .null, .null, .null, .int 0])), (aI cI q1 40 (fun _ => 0))] := hD
  refine lv_aload_n hx hb dX7_init_12 rfl (lv_at hl 0 rfl) ?_
  refine lv_bipush (v := 40) hx hb dX7_init_13 (by decide) ?_
  refine va_newa (atype := .int) (ty := .int) (a0 := (40, .inl (fun _ => 0))) hx hb (hts (Cond.arrayClass .int) (wm_t (wm_l (wm_i 3 rfl)))) rfl hK hP hD hS hA (fun _ => rfl) (by decide) (by decide) (by decide) (Nat.le_of_ble_eq_true rfl) (Nat.le_of_ble_eq_true rfl) dX7_init_15 (fun q3 cA4 H => ?_)
  clear hK hP hD hS
  intro hK hP hD hS
  have ecA4 : cI = cA4 := cls_eq hK 0 4 rfl rfl
  subst ecA4
  replace hK : va_K D vwCl (ty4 cI cY cJ cQ) s := hK.sub (tys' := ty4 cI cY cJ cQ) [0, 1, 2, 3] rfl
  replace hP : va_P D vwCl [(h0, .inr (7, [.ref q1, .null, .null, .null, .null, .null, .int 0])), (aI cI q1 40 (fun _ => 0)), (aI cI q3 40 (fun _ => 0))] H := hP
  replace hD : va_D A [(h0, .inr (7, [.ref q1, .null, .null, .null, .null, .null, .int 0])), (aI cI q1 40 (fun _ => 0)), (aI cI q3 40 (fun _ => 0))] := hD
  refine W.widen (k := 2) (n := 80) (by first | exact Nat.le_of_ble_eq_true rfl | omega) (by first | exact Nat.le_of_ble_eq_true rfl | omega) ?_
  refine va_putF (D := D) (ci := 7) (v := .ref q3) (ty := (.array .int)) (C := RX7) (T := TX7) (N := 7) hx hb hts inX7_init_X7 tyX7 tyX7_ok nmX7 hown hK hP hD hS 0 rfl rfl 1 (by decide) (hts (Cond.fieldLink RX7 15 "PortRooms$Papers" "from" "[I") (wm_t (wm_l (wm_i 5 rfl)))) (fun _ h9 => h9) rfl hin rfl (tyX7_ok 1 (by decide)) rfl rfl (Nat.le_of_ble_eq_true rfl) dX7_init_17 (fun H locs => ?_)
  clear hP hD hS
  intro hP hD hS
  replace hP : va_P D vwCl [(h0, .inr (7, [.ref q1, .ref q3, .null, .null, .null, .null, .int 0])), (aI cI q1 40 (fun _ => 0)), (aI cI q3 40 (fun _ => 0))] H := hP
  replace hD : va_D A [(h0, .inr (7, [.ref q1, .ref q3, .null, .null, .null, .null, .int 0])), (aI cI q1 40 (fun _ => 0)), (aI cI q3 40 (fun _ => 0))] := hD
  refine lv_aload_n hx hb dX7_init_20 rfl (lv_at hl 0 rfl) ?_
  refine lv_bipush (v := 40) hx hb dX7_init_21 (by decide) ?_
  refine va_newa (atype := .int) (ty := .int) (a0 := (40, .inl (fun _ => 0))) hx hb (hts (Cond.arrayClass .int) (wm_t (wm_l (wm_i 3 rfl)))) rfl hK hP hD hS hA (fun _ => rfl) (by decide) (by decide) (by decide) (Nat.le_of_ble_eq_true rfl) (Nat.le_of_ble_eq_true rfl) dX7_init_23 (fun q5 cA6 H => ?_)
  clear hK hP hD hS
  intro hK hP hD hS
  have ecA6 : cI = cA6 := cls_eq hK 0 4 rfl rfl
  subst ecA6
  replace hK : va_K D vwCl (ty4 cI cY cJ cQ) s := hK.sub (tys' := ty4 cI cY cJ cQ) [0, 1, 2, 3] rfl
  replace hP : va_P D vwCl [(h0, .inr (7, [.ref q1, .ref q3, .null, .null, .null, .null, .int 0])), (aI cI q1 40 (fun _ => 0)), (aI cI q3 40 (fun _ => 0)), (aI cI q5 40 (fun _ => 0))] H := hP
  replace hD : va_D A [(h0, .inr (7, [.ref q1, .ref q3, .null, .null, .null, .null, .int 0])), (aI cI q1 40 (fun _ => 0)), (aI cI q3 40 (fun _ => 0)), (aI cI q5 40 (fun _ => 0))] := hD
  refine W.widen (k := 3) (n := 120) (by first | exact Nat.le_of_ble_eq_true rfl | omega) (by first | exact Nat.le_of_ble_eq_true rfl | omega) ?_
  refine va_putF (D := D) (ci := 7) (v := .ref q5) (ty := (.array .int)) (C := RX7) (T := TX7) (N := 7) hx hb hts inX7_init_X7 tyX7 tyX7_ok nmX7 hown hK hP hD hS 0 rfl rfl 2 (by decide) (hts (Cond.fieldLink RX7 18 "PortRooms$Papers" "to" "[I") (wm_t (wm_l (wm_i 6 rfl)))) (fun _ h9 => h9) rfl hin rfl (tyX7_ok 2 (by decide)) rfl rfl (Nat.le_of_ble_eq_true rfl) dX7_init_25 (fun H locs => ?_)
  clear hP hD hS
  intro hP hD hS
  replace hP : va_P D vwCl [(h0, .inr (7, [.ref q1, .ref q3, .ref q5, .null, .null, .null, .int 0])), (aI cI q1 40 (fun _ => 0)), (aI cI q3 40 (fun _ => 0)), (aI cI q5 40 (fun _ => 0))] H := hP
  replace hD : va_D A [(h0, .inr (7, [.ref q1, .ref q3, .ref q5, .null, .null, .null, .int 0])), (aI cI q1 40 (fun _ => 0)), (aI cI q3 40 (fun _ => 0)), (aI cI q5 40 (fun _ => 0))] := hD
  refine lv_aload_n hx hb dX7_init_28 rfl (lv_at hl 0 rfl) ?_
  refine lv_bipush (v := 40) hx hb dX7_init_29 (by decide) ?_
  refine va_newa (atype := .int) (ty := .int) (a0 := (40, .inl (fun _ => 0))) hx hb (hts (Cond.arrayClass .int) (wm_t (wm_l (wm_i 3 rfl)))) rfl hK hP hD hS hA (fun _ => rfl) (by decide) (by decide) (by decide) (Nat.le_of_ble_eq_true rfl) (Nat.le_of_ble_eq_true rfl) dX7_init_31 (fun q7 cA8 H => ?_)
  clear hK hP hD hS
  intro hK hP hD hS
  have ecA8 : cI = cA8 := cls_eq hK 0 4 rfl rfl
  subst ecA8
  replace hK : va_K D vwCl (ty4 cI cY cJ cQ) s := hK.sub (tys' := ty4 cI cY cJ cQ) [0, 1, 2, 3] rfl
  replace hP : va_P D vwCl [(h0, .inr (7, [.ref q1, .ref q3, .ref q5, .null, .null, .null, .int 0])), (aI cI q1 40 (fun _ => 0)), (aI cI q3 40 (fun _ => 0)), (aI cI q5 40 (fun _ => 0)), (aI cI q7 40 (fun _ => 0))] H := hP
  replace hD : va_D A [(h0, .inr (7, [.ref q1, .ref q3, .ref q5, .null, .null, .null, .int 0])), (aI cI q1 40 (fun _ => 0)), (aI cI q3 40 (fun _ => 0)), (aI cI q5 40 (fun _ => 0)), (aI cI q7 40 (fun _ => 0))] := hD
  refine W.widen (k := 4) (n := 160) (by first | exact Nat.le_of_ble_eq_true rfl | omega) (by first | exact Nat.le_of_ble_eq_true rfl | omega) ?_
  refine va_putF (D := D) (ci := 7) (v := .ref q7) (ty := (.array .int)) (C := RX7) (T := TX7) (N := 7) hx hb hts inX7_init_X7 tyX7 tyX7_ok nmX7 hown hK hP hD hS 0 rfl rfl 3 (by decide) (hts (Cond.fieldLink RX7 21 "PortRooms$Papers" "said" "[I") (wm_t (wm_l (wm_i 7 rfl)))) (fun _ h9 => h9) rfl hin rfl (tyX7_ok 3 (by decide)) rfl rfl (Nat.le_of_ble_eq_true rfl) dX7_init_33 (fun H locs => ?_)
  clear hP hD hS
  intro hP hD hS
  replace hP : va_P D vwCl [(h0, .inr (7, [.ref q1, .ref q3, .ref q5, .ref q7, .null, .null, .int 0])), (aI cI q1 40 (fun _ => 0)), (aI cI q3 40 (fun _ => 0)), (aI cI q5 40 (fun _ => 0)), (aI cI q7 40 (fun _ => 0))] H := hP
  replace hD : va_D A [(h0, .inr (7, [.ref q1, .ref q3, .ref q5, .ref q7, .null, .null, .int 0])), (aI cI q1 40 (fun _ => 0)), (aI cI q3 40 (fun _ => 0)), (aI cI q5 40 (fun _ => 0)), (aI cI q7 40 (fun _ => 0))] := hD
  refine lv_aload_n hx hb dX7_init_36 rfl (lv_at hl 0 rfl) ?_
  refine lv_bipush (v := 40) hx hb dX7_init_37 (by decide) ?_
  refine va_newa (atype := .int) (ty := .int) (a0 := (40, .inl (fun _ => 0))) hx hb (hts (Cond.arrayClass .int) (wm_t (wm_l (wm_i 3 rfl)))) rfl hK hP hD hS hA (fun _ => rfl) (by decide) (by decide) (by decide) (Nat.le_of_ble_eq_true rfl) (Nat.le_of_ble_eq_true rfl) dX7_init_39 (fun q9 cA10 H => ?_)
  clear hK hP hD hS
  intro hK hP hD hS
  have ecA10 : cI = cA10 := cls_eq hK 0 4 rfl rfl
  subst ecA10
  replace hK : va_K D vwCl (ty4 cI cY cJ cQ) s := hK.sub (tys' := ty4 cI cY cJ cQ) [0, 1, 2, 3] rfl
  replace hP : va_P D vwCl [(h0, .inr (7, [.ref q1, .ref q3, .ref q5, .ref q7, .null, .null, .int 0])), (aI cI q1 40 (fun _ => 0)), (aI cI q3 40 (fun _ => 0)), (aI cI q5 40 (fun _ => 0)), (aI cI q7 40 (fun _ => 0)), (aI cI q9 40 (fun _ => 0))] H := hP
  replace hD : va_D A [(h0, .inr (7, [.ref q1, .ref q3, .ref q5, .ref q7, .null, .null, .int 0])), (aI cI q1 40 (fun _ => 0)), (aI cI q3 40 (fun _ => 0)), (aI cI q5 40 (fun _ => 0)), (aI cI q7 40 (fun _ => 0)), (aI cI q9 40 (fun _ => 0))] := hD
  refine W.widen (k := 5) (n := 200) (by first | exact Nat.le_of_ble_eq_true rfl | omega) (by first | exact Nat.le_of_ble_eq_true rfl | omega) ?_
  refine va_putF (D := D) (ci := 7) (v := .ref q9) (ty := (.array .int)) (C := RX7) (T := TX7) (N := 7) hx hb hts inX7_init_X7 tyX7 tyX7_ok nmX7 hown hK hP hD hS 0 rfl rfl 4 (by decide) (hts (Cond.fieldLink RX7 24 "PortRooms$Papers" "filed" "[I") (wm_t (wm_l (wm_i 8 rfl)))) (fun _ h9 => h9) rfl hin rfl (tyX7_ok 4 (by decide)) rfl rfl (Nat.le_of_ble_eq_true rfl) dX7_init_41 (fun H locs => ?_)
  clear hP hD hS
  intro hP hD hS
  replace hP : va_P D vwCl [(h0, .inr (7, [.ref q1, .ref q3, .ref q5, .ref q7, .ref q9, .null, .int 0])), (aI cI q1 40 (fun _ => 0)), (aI cI q3 40 (fun _ => 0)), (aI cI q5 40 (fun _ => 0)), (aI cI q7 40 (fun _ => 0)), (aI cI q9 40 (fun _ => 0))] H := hP
  replace hD : va_D A [(h0, .inr (7, [.ref q1, .ref q3, .ref q5, .ref q7, .ref q9, .null, .int 0])), (aI cI q1 40 (fun _ => 0)), (aI cI q3 40 (fun _ => 0)), (aI cI q5 40 (fun _ => 0)), (aI cI q7 40 (fun _ => 0)), (aI cI q9 40 (fun _ => 0))] := hD
  refine lv_aload_n hx hb dX7_init_44 rfl (lv_at hl 0 rfl) ?_
  refine lv_bipush (v := 40) hx hb dX7_init_45 (by decide) ?_
  refine va_newa (atype := .int) (ty := .int) (a0 := (40, .inl (fun _ => 0))) hx hb (hts (Cond.arrayClass .int) (wm_t (wm_l (wm_i 3 rfl)))) rfl hK hP hD hS hA (fun _ => rfl) (by decide) (by decide) (by decide) (Nat.le_of_ble_eq_true rfl) (Nat.le_of_ble_eq_true rfl) dX7_init_47 (fun q11 cA12 H => ?_)
  clear hK hP hD hS
  intro hK hP hD hS
  have ecA12 : cI = cA12 := cls_eq hK 0 4 rfl rfl
  subst ecA12
  replace hK : va_K D vwCl (ty4 cI cY cJ cQ) s := hK.sub (tys' := ty4 cI cY cJ cQ) [0, 1, 2, 3] rfl
  replace hP : va_P D vwCl [(h0, .inr (7, [.ref q1, .ref q3, .ref q5, .ref q7, .ref q9, .null, .int 0])), (aI cI q1 40 (fun _ => 0)), (aI cI q3 40 (fun _ => 0)), (aI cI q5 40 (fun _ => 0)), (aI cI q7 40 (fun _ => 0)), (aI cI q9 40 (fun _ => 0)), (aI cI q11 40 (fun _ => 0))] H := hP
  replace hD : va_D A [(h0, .inr (7, [.ref q1, .ref q3, .ref q5, .ref q7, .ref q9, .null, .int 0])), (aI cI q1 40 (fun _ => 0)), (aI cI q3 40 (fun _ => 0)), (aI cI q5 40 (fun _ => 0)), (aI cI q7 40 (fun _ => 0)), (aI cI q9 40 (fun _ => 0)), (aI cI q11 40 (fun _ => 0))] := hD
  refine W.widen (k := 6) (n := 240) (by first | exact Nat.le_of_ble_eq_true rfl | omega) (by first | exact Nat.le_of_ble_eq_true rfl | omega) ?_
  refine va_putF (D := D) (ci := 7) (v := .ref q11) (ty := (.array .int)) (C := RX7) (T := TX7) (N := 7) hx hb hts inX7_init_X7 tyX7 tyX7_ok nmX7 hown hK hP hD hS 0 rfl rfl 5 (by decide) (hts (Cond.fieldLink RX7 27 "PortRooms$Papers" "order" "[I") (wm_t (wm_l (wm_i 9 rfl)))) (fun _ h9 => h9) rfl hin rfl (tyX7_ok 5 (by decide)) rfl rfl (Nat.le_of_ble_eq_true rfl) dX7_init_49 (fun H locs => ?_)
  clear hP hD hS
  intro hP hD hS
  replace hP : va_P D vwCl [(h0, .inr (7, [.ref q1, .ref q3, .ref q5, .ref q7, .ref q9, .ref q11, .int 0])), (aI cI q1 40 (fun _ => 0)), (aI cI q3 40 (fun _ => 0)), (aI cI q5 40 (fun _ => 0)), (aI cI q7 40 (fun _ => 0)), (aI cI q9 40 (fun _ => 0)), (aI cI q11 40 (fun _ => 0))] H := hP
  replace hD : va_D A [(h0, .inr (7, [.ref q1, .ref q3, .ref q5, .ref q7, .ref q9, .ref q11, .int 0])), (aI cI q1 40 (fun _ => 0)), (aI cI q3 40 (fun _ => 0)), (aI cI q5 40 (fun _ => 0)), (aI cI q7 40 (fun _ => 0)), (aI cI q9 40 (fun _ => 0)), (aI cI q11 40 (fun _ => 0))] := hD
  have hP9 := hP.sub (ws' := [(h0, .inr (7, [.ref q1, .ref q3, .ref q5, .ref q7, .ref q9, .ref q11, .int 0])), (aI cI q1 40 (fun _ => 0)), (aI cI q3 40 (fun _ => 0)), (aI cI q5 40 (fun _ => 0)), (aI cI q7 40 (fun _ => 0)), (aI cI q9 40 (fun _ => 0)), (aI cI q11 40 (fun _ => 0))]) [0, 1, 2, 3, 4, 5, 6] rfl
  have hD9 := hD.sub (ws' := [(h0, .inr (7, [.ref q1, .ref q3, .ref q5, .ref q7, .ref q9, .ref q11, .int 0])), (aI cI q1 40 (fun _ => 0)), (aI cI q3 40 (fun _ => 0)), (aI cI q5 40 (fun _ => 0)), (aI cI q7 40 (fun _ => 0)), (aI cI q9 40 (fun _ => 0)), (aI cI q11 40 (fun _ => 0))]) [0, 1, 2, 3, 4, 5, 6] (by decide +kernel) rfl
  exact W.vret hx hb hr (fun t ht hW => ⟨⟨(fun k => ([q1, q3, q5, q7, q9, q11, 0] : List Nat).getD k 0), rfl, trivial, by rw [ht]; exact hP9, va_K.moved hW.alike hK, hD9⟩, hS.F ht⟩) hS.2.2 dX7_init_52

set_option maxHeartbeats 4000000 in
set_option maxRecDepth 100000 in
theorem ct_X8_init (l : Launch) (D : va_G) (cI cY cJ cQ : ClassId) (sz : Nat) (h0 : Nat)   : Met l yX8_init wsX8_init ({ frames := 1, cells := 5, slots := 200, locals := 12 }) (cPre D (ty4 cI cY cJ cQ) [(h0, .inr (8, [.null, .null, .null, .null, .int 0, .null]))] sz [.ref h0]) (va_Qv (fun (u : Nat → Nat) => True) (cB D (ty4 cI cY cJ cQ) (fun (u : Nat → Nat) => [(h0, .inr (8, [.ref (u 0), .ref (u 1), .ref (u 2), .ref (u 3), .int 0, .ref (u 5)])), (aI cI (u 0) 40 (fun _ => 0)), (aI cI (u 1) 40 (fun _ => 0)), (aI cI (u 2) 40 (fun _ => 0)), (aI cI (u 3) 40 (fun _ => 0)), (aI cI (u 5) 40 (fun _ => 0))]) (va_A [(h0, .inr (8, [.null, .null, .null, .null, .int 0, .null]))] sz)) (va_A [(h0, .inr (8, [.null, .null, .null, .null, .int 0, .null]))] sz)) 5 200 (va_A [(h0, .inr (8, [.null, .null, .null, .null, .int 0, .null]))] sz) := by
  refine Met.ofW (cc := cX8_init) (maxL := 1) (ret := none) (by decide) rfl ?_
  intro p e s m args below meth c s₁ B hml hv
  obtain ⟨rfl, hsz, hP, hK, hD0, hN⟩ := hv
  have hx := B.exec
  have hb := B.bytes
  have hr := B.returns
  have hts := atoms_spec (ws := wsX8_init) B.pre
  have hown : s.vm.findClass RX8 = some m.cls := findClass_of_methodNamed B.named
  have hlocks := B.notSynchronized
  have hin : meth.name = "<init>" := (name_of_methodNamed B.named B.method).1
  subst hsz
  have hD := hD0.self (sz := s.heap.size)
  generalize hAe : va_A [(h0, .inr (8, [.null, .null, .null, .null, .int 0, .null]))] s.heap.size = A at hD ⊢
  have hA : ∀ q : Nat, s.heap.size ≤ q → A q := fun q h => by rw [← hAe]; exact Or.inr h
  have hS : va_S A s.heap s.heap [] := va_S.rf
  have hP : va_P D vwCl [(h0, .inr (8, [.null, .null, .null, .null, .int 0, .null]))] s.heap := hP
  have hl := lv_entry ([.ref h0]) (n := 1) (Nat.le_of_ble_eq_true rfl)
  rw [lg_entry_eq]
  generalize (lg_sl ([.ref h0]) ++ List.replicate (1 - (lg_sl ([.ref h0])).length) Slot.unset).toArray = ls at hl ⊢
  have hl : lv_has ls 1 [(0, .ref h0)] := hl
  refine lv_aload_n hx hb dX8_init_0 rfl (lv_at hl 0 rfl) ?_
  refine W.objInit hx hb hown (hts (Cond.methodLink RX8 3 objectInit) (wm_t (wm_l (wm_i 0 rfl)))) (hts (Cond.instanceMethod objectInit) (wm_t (wm_l (wm_i 1 rfl)))) (hts _ (by decide +kernel)) rfl (by rw [hml]; exact hl.1) rfl dX8_init_1 (Nat.le_of_ble_eq_true rfl) (Nat.le_of_ble_eq_true rfl) ?_
  refine W.eq (g2 := F0 m 4 ls []) rfl ?_
  refine lv_aload_n hx hb dX8_init_4 rfl (lv_at hl 0 rfl) ?_
  refine lv_bipush (v := 40) hx hb dX8_init_5 (by decide) ?_
  refine va_newa (atype := .int) (ty := .int) (a0 := (40, .inl (fun _ => 0))) hx hb (hts (Cond.arrayClass .int) (wm_t (wm_l (wm_i 3 rfl)))) rfl hK hP hD hS hA (fun _ => rfl) (by decide) (by decide) (by decide) (Nat.le_of_ble_eq_true rfl) (Nat.le_of_ble_eq_true rfl) dX8_init_7 (fun q1 cA2 H => ?_)
  clear hK hP hD hS
  intro hK hP hD hS
  have ecA2 : cI = cA2 := cls_eq hK 0 4 rfl rfl
  subst ecA2
  replace hK : va_K D vwCl (ty4 cI cY cJ cQ) s := hK.sub (tys' := ty4 cI cY cJ cQ) [0, 1, 2, 3] rfl
  replace hP : va_P D vwCl [(h0, .inr (8, [.null, .null, .null, .null, .int 0, .null])), (aI cI q1 40 (fun _ => 0))] H := hP
  replace hD : va_D A [(h0, .inr (8, [.null, .null, .null, .null, .int 0, .null])), (aI cI q1 40 (fun _ => 0))] := hD
  refine W.widen (k := 1) (n := 40) (by first | exact Nat.le_of_ble_eq_true rfl | omega) (by first | exact Nat.le_of_ble_eq_true rfl | omega) ?_
  refine va_putF (D := D) (ci := 8) (v := .ref q1) (ty := (.array .int)) (C := RX8) (T := TX8) (N := 6) hx hb hts inX8_init_X8 tyX8 tyX8_ok nmX8 hown hK hP hD hS 0 rfl rfl 0 (by decide) (hts (Cond.fieldLink RX8 9 "PortRooms$Pledges" "crate" "[I") (wm_t (wm_l (wm_i 4 rfl)))) (fun _ h9 => h9) rfl hin rfl (tyX8_ok 0 (by decide)) rfl rfl (Nat.le_of_ble_eq_true rfl) dX8_init_9 (fun H locs => ?_)
  clear hP hD hS
  intro hP hD hS
  replace hP : va_P D vwCl [(h0, .inr (8, [.ref q1, .null, .null, .null, .int 0, .null])), (aI cI q1 40 (fun _ => 0))] H := hP
  replace hD : va_D A [(h0, .inr (8, [.ref q1, .null, .null, .null, .int 0, .null])), (aI cI q1 40 (fun _ => 0))] := hD
  refine lv_aload_n hx hb dX8_init_12 rfl (lv_at hl 0 rfl) ?_
  refine lv_bipush (v := 40) hx hb dX8_init_13 (by decide) ?_
  refine va_newa (atype := .int) (ty := .int) (a0 := (40, .inl (fun _ => 0))) hx hb (hts (Cond.arrayClass .int) (wm_t (wm_l (wm_i 3 rfl)))) rfl hK hP hD hS hA (fun _ => rfl) (by decide) (by decide) (by decide) (Nat.le_of_ble_eq_true rfl) (Nat.le_of_ble_eq_true rfl) dX8_init_15 (fun q3 cA4 H => ?_)
  clear hK hP hD hS
  intro hK hP hD hS
  have ecA4 : cI = cA4 := cls_eq hK 0 4 rfl rfl
  subst ecA4
  replace hK : va_K D vwCl (ty4 cI cY cJ cQ) s := hK.sub (tys' := ty4 cI cY cJ cQ) [0, 1, 2, 3] rfl
  replace hP : va_P D vwCl [(h0, .inr (8, [.ref q1, .null, .null, .null, .int 0, .null])), (aI cI q1 40 (fun _ => 0)), (aI cI q3 40 (fun _ => 0))] H := hP
  replace hD : va_D A [(h0, .inr (8, [.ref q1, .null, .null, .null, .int 0, .null])), (aI cI q1 40 (fun _ => 0)), (aI cI q3 40 (fun _ => 0))] := hD
  refine W.widen (k := 2) (n := 80) (by first | exact Nat.le_of_ble_eq_true rfl | omega) (by first | exact Nat.le_of_ble_eq_true rfl | omega) ?_
  refine va_putF (D := D) (ci := 8) (v := .ref q3) (ty := (.array .int)) (C := RX8) (T := TX8) (N := 6) hx hb hts inX8_init_X8 tyX8 tyX8_ok nmX8 hown hK hP hD hS 0 rfl rfl 1 (by decide) (hts (Cond.fieldLink RX8 15 "PortRooms$Pledges" "sum" "[I") (wm_t (wm_l (wm_i 5 rfl)))) (fun _ h9 => h9) rfl hin rfl (tyX8_ok 1 (by decide)) rfl rfl (Nat.le_of_ble_eq_true rfl) dX8_init_17 (fun H locs => ?_)
  clear hP hD hS
  intro hP hD hS
  replace hP : va_P D vwCl [(h0, .inr (8, [.ref q1, .ref q3, .null, .null, .int 0, .null])), (aI cI q1 40 (fun _ => 0)), (aI cI q3 40 (fun _ => 0))] H := hP
  replace hD : va_D A [(h0, .inr (8, [.ref q1, .ref q3, .null, .null, .int 0, .null])), (aI cI q1 40 (fun _ => 0)), (aI cI q3 40 (fun _ => 0))] := hD
  refine lv_aload_n hx hb dX8_init_20 rfl (lv_at hl 0 rfl) ?_
  refine lv_bipush (v := 40) hx hb dX8_init_21 (by decide) ?_
  refine va_newa (atype := .int) (ty := .int) (a0 := (40, .inl (fun _ => 0))) hx hb (hts (Cond.arrayClass .int) (wm_t (wm_l (wm_i 3 rfl)))) rfl hK hP hD hS hA (fun _ => rfl) (by decide) (by decide) (by decide) (Nat.le_of_ble_eq_true rfl) (Nat.le_of_ble_eq_true rfl) dX8_init_23 (fun q5 cA6 H => ?_)
  clear hK hP hD hS
  intro hK hP hD hS
  have ecA6 : cI = cA6 := cls_eq hK 0 4 rfl rfl
  subst ecA6
  replace hK : va_K D vwCl (ty4 cI cY cJ cQ) s := hK.sub (tys' := ty4 cI cY cJ cQ) [0, 1, 2, 3] rfl
  replace hP : va_P D vwCl [(h0, .inr (8, [.ref q1, .ref q3, .null, .null, .int 0, .null])), (aI cI q1 40 (fun _ => 0)), (aI cI q3 40 (fun _ => 0)), (aI cI q5 40 (fun _ => 0))] H := hP
  replace hD : va_D A [(h0, .inr (8, [.ref q1, .ref q3, .null, .null, .int 0, .null])), (aI cI q1 40 (fun _ => 0)), (aI cI q3 40 (fun _ => 0)), (aI cI q5 40 (fun _ => 0))] := hD
  refine W.widen (k := 3) (n := 120) (by first | exact Nat.le_of_ble_eq_true rfl | omega) (by first | exact Nat.le_of_ble_eq_true rfl | omega) ?_
  refine va_putF (D := D) (ci := 8) (v := .ref q5) (ty := (.array .int)) (C := RX8) (T := TX8) (N := 6) hx hb hts inX8_init_X8 tyX8 tyX8_ok nmX8 hown hK hP hD hS 0 rfl rfl 2 (by decide) (hts (Cond.fieldLink RX8 18 "PortRooms$Pledges" "said" "[I") (wm_t (wm_l (wm_i 6 rfl)))) (fun _ h9 => h9) rfl hin rfl (tyX8_ok 2 (by decide)) rfl rfl (Nat.le_of_ble_eq_true rfl) dX8_init_25 (fun H locs => ?_)
  clear hP hD hS
  intro hP hD hS
  replace hP : va_P D vwCl [(h0, .inr (8, [.ref q1, .ref q3, .ref q5, .null, .int 0, .null])), (aI cI q1 40 (fun _ => 0)), (aI cI q3 40 (fun _ => 0)), (aI cI q5 40 (fun _ => 0))] H := hP
  replace hD : va_D A [(h0, .inr (8, [.ref q1, .ref q3, .ref q5, .null, .int 0, .null])), (aI cI q1 40 (fun _ => 0)), (aI cI q3 40 (fun _ => 0)), (aI cI q5 40 (fun _ => 0))] := hD
  refine lv_aload_n hx hb dX8_init_28 rfl (lv_at hl 0 rfl) ?_
  refine lv_bipush (v := 40) hx hb dX8_init_29 (by decide) ?_
  refine va_newa (atype := .int) (ty := .int) (a0 := (40, .inl (fun _ => 0))) hx hb (hts (Cond.arrayClass .int) (wm_t (wm_l (wm_i 3 rfl)))) rfl hK hP hD hS hA (fun _ => rfl) (by decide) (by decide) (by decide) (Nat.le_of_ble_eq_true rfl) (Nat.le_of_ble_eq_true rfl) dX8_init_31 (fun q7 cA8 H => ?_)
  clear hK hP hD hS
  intro hK hP hD hS
  have ecA8 : cI = cA8 := cls_eq hK 0 4 rfl rfl
  subst ecA8
  replace hK : va_K D vwCl (ty4 cI cY cJ cQ) s := hK.sub (tys' := ty4 cI cY cJ cQ) [0, 1, 2, 3] rfl
  replace hP : va_P D vwCl [(h0, .inr (8, [.ref q1, .ref q3, .ref q5, .null, .int 0, .null])), (aI cI q1 40 (fun _ => 0)), (aI cI q3 40 (fun _ => 0)), (aI cI q5 40 (fun _ => 0)), (aI cI q7 40 (fun _ => 0))] H := hP
  replace hD : va_D A [(h0, .inr (8, [.ref q1, .ref q3, .ref q5, .null, .int 0, .null])), (aI cI q1 40 (fun _ => 0)), (aI cI q3 40 (fun _ => 0)), (aI cI q5 40 (fun _ => 0)), (aI cI q7 40 (fun _ => 0))] := hD
  refine W.widen (k := 4) (n := 160) (by first | exact Nat.le_of_ble_eq_true rfl | omega) (by first | exact Nat.le_of_ble_eq_true rfl | omega) ?_
  refine va_putF (D := D) (ci := 8) (v := .ref q7) (ty := (.array .int)) (C := RX8) (T := TX8) (N := 6) hx hb hts inX8_init_X8 tyX8 tyX8_ok nmX8 hown hK hP hD hS 0 rfl rfl 3 (by decide) (hts (Cond.fieldLink RX8 21 "PortRooms$Pledges" "filed" "[I") (wm_t (wm_l (wm_i 7 rfl)))) (fun _ h9 => h9) rfl hin rfl (tyX8_ok 3 (by decide)) rfl rfl (Nat.le_of_ble_eq_true rfl) dX8_init_33 (fun H locs => ?_)
  clear hP hD hS
  intro hP hD hS
  replace hP : va_P D vwCl [(h0, .inr (8, [.ref q1, .ref q3, .ref q5, .ref q7, .int 0, .null])), (aI cI q1 40 (fun _ => 0)), (aI cI q3 40 (fun _ => 0)), (aI cI q5 40 (fun _ => 0)), (aI cI q7 40 (fun _ => 0))] H := hP
  replace hD : va_D A [(h0, .inr (8, [.ref q1, .ref q3, .ref q5, .ref q7, .int 0, .null])), (aI cI q1 40 (fun _ => 0)), (aI cI q3 40 (fun _ => 0)), (aI cI q5 40 (fun _ => 0)), (aI cI q7 40 (fun _ => 0))] := hD
  refine lv_aload_n hx hb dX8_init_36 rfl (lv_at hl 0 rfl) ?_
  refine lv_bipush (v := 40) hx hb dX8_init_37 (by decide) ?_
  refine va_newa (atype := .int) (ty := .int) (a0 := (40, .inl (fun _ => 0))) hx hb (hts (Cond.arrayClass .int) (wm_t (wm_l (wm_i 3 rfl)))) rfl hK hP hD hS hA (fun _ => rfl) (by decide) (by decide) (by decide) (Nat.le_of_ble_eq_true rfl) (Nat.le_of_ble_eq_true rfl) dX8_init_39 (fun q9 cA10 H => ?_)
  clear hK hP hD hS
  intro hK hP hD hS
  have ecA10 : cI = cA10 := cls_eq hK 0 4 rfl rfl
  subst ecA10
  replace hK : va_K D vwCl (ty4 cI cY cJ cQ) s := hK.sub (tys' := ty4 cI cY cJ cQ) [0, 1, 2, 3] rfl
  replace hP : va_P D vwCl [(h0, .inr (8, [.ref q1, .ref q3, .ref q5, .ref q7, .int 0, .null])), (aI cI q1 40 (fun _ => 0)), (aI cI q3 40 (fun _ => 0)), (aI cI q5 40 (fun _ => 0)), (aI cI q7 40 (fun _ => 0)), (aI cI q9 40 (fun _ => 0))] H := hP
  replace hD : va_D A [(h0, .inr (8, [.ref q1, .ref q3, .ref q5, .ref q7, .int 0, .null])), (aI cI q1 40 (fun _ => 0)), (aI cI q3 40 (fun _ => 0)), (aI cI q5 40 (fun _ => 0)), (aI cI q7 40 (fun _ => 0)), (aI cI q9 40 (fun _ => 0))] := hD
  refine W.widen (k := 5) (n := 200) (by first | exact Nat.le_of_ble_eq_true rfl | omega) (by first | exact Nat.le_of_ble_eq_true rfl | omega) ?_
  refine va_putF (D := D) (ci := 8) (v := .ref q9) (ty := (.array .int)) (C := RX8) (T := TX8) (N := 6) hx hb hts inX8_init_X8 tyX8 tyX8_ok nmX8 hown hK hP hD hS 0 rfl rfl 5 (by decide) (hts (Cond.fieldLink RX8 24 "PortRooms$Pledges" "order" "[I") (wm_t (wm_l (wm_i 8 rfl)))) (fun _ h9 => h9) rfl hin rfl (tyX8_ok 5 (by decide)) rfl rfl (Nat.le_of_ble_eq_true rfl) dX8_init_41 (fun H locs => ?_)
  clear hP hD hS
  intro hP hD hS
  replace hP : va_P D vwCl [(h0, .inr (8, [.ref q1, .ref q3, .ref q5, .ref q7, .int 0, .ref q9])), (aI cI q1 40 (fun _ => 0)), (aI cI q3 40 (fun _ => 0)), (aI cI q5 40 (fun _ => 0)), (aI cI q7 40 (fun _ => 0)), (aI cI q9 40 (fun _ => 0))] H := hP
  replace hD : va_D A [(h0, .inr (8, [.ref q1, .ref q3, .ref q5, .ref q7, .int 0, .ref q9])), (aI cI q1 40 (fun _ => 0)), (aI cI q3 40 (fun _ => 0)), (aI cI q5 40 (fun _ => 0)), (aI cI q7 40 (fun _ => 0)), (aI cI q9 40 (fun _ => 0))] := hD
  have hP9 := hP.sub (ws' := [(h0, .inr (8, [.ref q1, .ref q3, .ref q5, .ref q7, .int 0, .ref q9])), (aI cI q1 40 (fun _ => 0)), (aI cI q3 40 (fun _ => 0)), (aI cI q5 40 (fun _ => 0)), (aI cI q7 40 (fun _ => 0)), (aI cI q9 40 (fun _ => 0))]) [0, 1, 2, 3, 4, 5] rfl
  have hD9 := hD.sub (ws' := [(h0, .inr (8, [.ref q1, .ref q3, .ref q5, .ref q7, .int 0, .ref q9])), (aI cI q1 40 (fun _ => 0)), (aI cI q3 40 (fun _ => 0)), (aI cI q5 40 (fun _ => 0)), (aI cI q7 40 (fun _ => 0)), (aI cI q9 40 (fun _ => 0))]) [0, 1, 2, 3, 4, 5] (by decide +kernel) rfl
  exact W.vret hx hb hr (fun t ht hW => ⟨⟨(fun k => ([q1, q3, q5, q7, 0, q9] : List Nat).getD k 0), rfl, trivial, by rw [ht]; exact hP9, va_K.moved hW.alike hK, hD9⟩, hS.F ht⟩) hS.2.2 dX8_init_44

set_option maxHeartbeats 4000000 in
set_option maxRecDepth 100000 in
theorem ct_X2_init (l : Launch) (D : va_G) (cI cY cJ cQ : ClassId) (sz : Nat) (h0 : Nat)   : Met l yX2_init wsX2_init ({ frames := 1, cells := 7, slots := 372, locals := 12 }) (cPre D (ty4 cI cY cJ cQ) [(h0, .inr (2, [.null, .int 0, .int 0, .null, .null, .null, .int 0, .null, .null, .null, .int 0, .int 0, .int 0, .int 0, .int 0]))] sz [.ref h0]) (va_Qv (fun (u : Nat → Nat) => True) (cB D (ty4 cI cY cJ cQ) (fun (u : Nat → Nat) => [(h0, .inr (2, [.ref (u 0), .int 0, .int 0, .ref (u 3), .ref (u 4), .ref (u 5), .int 0, .ref (u 7), .ref (u 8), .ref (u 9), .int 0, .int 0, .int 0, .int 0, .int 0])), (aI cY (u 0) 300 (fun _ => 0)), (aI cI (u 3) 12 (fun _ => 0)), (aI cI (u 4) 12 (fun _ => 0)), (aI cI (u 5) 12 (fun _ => 0)), (aI cI (u 7) 12 (fun _ => 0)), (aI cI (u 8) 12 (fun _ => 0)), (aI cI (u 9) 12 (fun _ => 0))]) (va_A [(h0, .inr (2, [.null, .int 0, .int 0, .null, .null, .null, .int 0, .null, .null, .null, .int 0, .int 0, .int 0, .int 0, .int 0]))] sz)) (va_A [(h0, .inr (2, [.null, .int 0, .int 0, .null, .null, .null, .int 0, .null, .null, .null, .int 0, .int 0, .int 0, .int 0, .int 0]))] sz)) 7 372 (va_A [(h0, .inr (2, [.null, .int 0, .int 0, .null, .null, .null, .int 0, .null, .null, .null, .int 0, .int 0, .int 0, .int 0, .int 0]))] sz) := by
  refine Met.ofW (cc := cX2_init) (maxL := 1) (ret := none) (by decide) rfl ?_
  intro p e s m args below meth c s₁ B hml hv
  obtain ⟨rfl, hsz, hP, hK, hD0, hN⟩ := hv
  have hx := B.exec
  have hb := B.bytes
  have hr := B.returns
  have hts := atoms_spec (ws := wsX2_init) B.pre
  have hown : s.vm.findClass RX2 = some m.cls := findClass_of_methodNamed B.named
  have hlocks := B.notSynchronized
  have hin : meth.name = "<init>" := (name_of_methodNamed B.named B.method).1
  subst hsz
  have hD := hD0.self (sz := s.heap.size)
  generalize hAe : va_A [(h0, .inr (2, [.null, .int 0, .int 0, .null, .null, .null, .int 0, .null, .null, .null, .int 0, .int 0, .int 0, .int 0, .int 0]))] s.heap.size = A at hD ⊢
  have hA : ∀ q : Nat, s.heap.size ≤ q → A q := fun q h => by rw [← hAe]; exact Or.inr h
  have hS : va_S A s.heap s.heap [] := va_S.rf
  have hP : va_P D vwCl [(h0, .inr (2, [.null, .int 0, .int 0, .null, .null, .null, .int 0, .null, .null, .null, .int 0, .int 0, .int 0, .int 0, .int 0]))] s.heap := hP
  have hl := lv_entry ([.ref h0]) (n := 1) (Nat.le_of_ble_eq_true rfl)
  rw [lg_entry_eq]
  generalize (lg_sl ([.ref h0]) ++ List.replicate (1 - (lg_sl ([.ref h0])).length) Slot.unset).toArray = ls at hl ⊢
  have hl : lv_has ls 1 [(0, .ref h0)] := hl
  refine lv_aload_n hx hb dX2_init_0 rfl (lv_at hl 0 rfl) ?_
  refine W.objInit hx hb hown (hts (Cond.methodLink RX2 3 objectInit) (wm_t (wm_l (wm_i 0 rfl)))) (hts (Cond.instanceMethod objectInit) (wm_t (wm_l (wm_i 1 rfl)))) (hts _ (by decide +kernel)) rfl (by rw [hml]; exact hl.1) rfl dX2_init_1 (Nat.le_of_ble_eq_true rfl) (Nat.le_of_ble_eq_true rfl) ?_
  refine W.eq (g2 := F0 m 4 ls []) rfl ?_
  refine lv_aload_n hx hb dX2_init_4 rfl (lv_at hl 0 rfl) ?_
  refine lv_sipush (v := 300) hx hb dX2_init_5 (by decide) ?_
  refine va_newa (atype := .byte) (ty := .byte) (a0 := (300, .inl (fun _ => 0))) hx hb (hts (Cond.arrayClass .byte) (wm_t (wm_l (wm_i 3 rfl)))) rfl hK hP hD hS hA (fun _ => rfl) (by decide) (by decide) (by decide) (Nat.le_of_ble_eq_true rfl) (Nat.le_of_ble_eq_true rfl) dX2_init_8 (fun q1 cA2 H => ?_)
  clear hK hP hD hS
  intro hK hP hD hS
  have ecA2 : cY = cA2 := cls_eq hK 1 4 rfl rfl
  subst ecA2
  replace hK : va_K D vwCl (ty4 cI cY cJ cQ) s := hK.sub (tys' := ty4 cI cY cJ cQ) [0, 1, 2, 3] rfl
  replace hP : va_P D vwCl [(h0, .inr (2, [.null, .int 0, .int 0, .null, .null, .null, .int 0, .null, .null, .null, .int 0, .int 0, .int 0, .int 0, .int 0])), (aI cY q1 300 (fun _ => 0))] H := hP
  replace hD : va_D A [(h0, .inr (2, [.null, .int 0, .int 0, .null, .null, .null, .int 0, .null, .null, .null, .int 0, .int 0, .int 0, .int 0, .int 0])), (aI cY q1 300 (fun _ => 0))] := hD
  refine W.widen (k := 1) (n := 300) (by first | exact Nat.le_of_ble_eq_true rfl | omega) (by first | exact Nat.le_of_ble_eq_true rfl | omega) ?_
  refine va_putF (D := D) (ci := 2) (v := .ref q1) (ty := (.array .byte)) (C := RX2) (T := TX2) (N := 15) hx hb hts inX2_init_X2 tyX2 tyX2_ok nmX2 hown hK hP hD hS 0 rfl rfl 0 (by decide) (hts (Cond.fieldLink RX2 11 "PortRooms$Duties" "tape" "[B") (wm_t (wm_l (wm_i 4 rfl)))) (fun _ h9 => h9) rfl hin rfl (tyX2_ok 0 (by decide)) rfl rfl (Nat.le_of_ble_eq_true rfl) dX2_init_10 (fun H locs => ?_)
  clear hP hD hS
  intro hP hD hS
  replace hP : va_P D vwCl [(h0, .inr (2, [.ref q1, .int 0, .int 0, .null, .null, .null, .int 0, .null, .null, .null, .int 0, .int 0, .int 0, .int 0, .int 0])), (aI cY q1 300 (fun _ => 0))] H := hP
  replace hD : va_D A [(h0, .inr (2, [.ref q1, .int 0, .int 0, .null, .null, .null, .int 0, .null, .null, .null, .int 0, .int 0, .int 0, .int 0, .int 0])), (aI cY q1 300 (fun _ => 0))] := hD
  refine lv_aload_n hx hb dX2_init_13 rfl (lv_at hl 0 rfl) ?_
  refine lv_bipush (v := 12) hx hb dX2_init_14 (by decide) ?_
  refine va_newa (atype := .int) (ty := .int) (a0 := (12, .inl (fun _ => 0))) hx hb (hts (Cond.arrayClass .int) (wm_t (wm_l (wm_i 5 rfl)))) rfl hK hP hD hS hA (fun _ => rfl) (by decide) (by decide) (by decide) (Nat.le_of_ble_eq_true rfl) (Nat.le_of_ble_eq_true rfl) dX2_init_16 (fun q3 cA4 H => ?_)
  clear hK hP hD hS
  intro hK hP hD hS
  have ecA4 : cI = cA4 := cls_eq hK 0 4 rfl rfl
  subst ecA4
  replace hK : va_K D vwCl (ty4 cI cY cJ cQ) s := hK.sub (tys' := ty4 cI cY cJ cQ) [0, 1, 2, 3] rfl
  replace hP : va_P D vwCl [(h0, .inr (2, [.ref q1, .int 0, .int 0, .null, .null, .null, .int 0, .null, .null, .null, .int 0, .int 0, .int 0, .int 0, .int 0])), (aI cY q1 300 (fun _ => 0)), (aI cI q3 12 (fun _ => 0))] H := hP
  replace hD : va_D A [(h0, .inr (2, [.ref q1, .int 0, .int 0, .null, .null, .null, .int 0, .null, .null, .null, .int 0, .int 0, .int 0, .int 0, .int 0])), (aI cY q1 300 (fun _ => 0)), (aI cI q3 12 (fun _ => 0))] := hD
  refine W.widen (k := 2) (n := 312) (by first | exact Nat.le_of_ble_eq_true rfl | omega) (by first | exact Nat.le_of_ble_eq_true rfl | omega) ?_
  refine va_putF (D := D) (ci := 2) (v := .ref q3) (ty := (.array .int)) (C := RX2) (T := TX2) (N := 15) hx hb hts inX2_init_X2 tyX2 tyX2_ok nmX2 hown hK hP hD hS 0 rfl rfl 3 (by decide) (hts (Cond.fieldLink RX2 15 "PortRooms$Duties" "what" "[I") (wm_t (wm_l (wm_i 6 rfl)))) (fun _ h9 => h9) rfl hin rfl (tyX2_ok 3 (by decide)) rfl rfl (Nat.le_of_ble_eq_true rfl) dX2_init_18 (fun H locs => ?_)
  clear hP hD hS
  intro hP hD hS
  replace hP : va_P D vwCl [(h0, .inr (2, [.ref q1, .int 0, .int 0, .ref q3, .null, .null, .int 0, .null, .null, .null, .int 0, .int 0, .int 0, .int 0, .int 0])), (aI cY q1 300 (fun _ => 0)), (aI cI q3 12 (fun _ => 0))] H := hP
  replace hD : va_D A [(h0, .inr (2, [.ref q1, .int 0, .int 0, .ref q3, .null, .null, .int 0, .null, .null, .null, .int 0, .int 0, .int 0, .int 0, .int 0])), (aI cY q1 300 (fun _ => 0)), (aI cI q3 12 (fun _ => 0))] := hD
  refine lv_aload_n hx hb dX2_init_21 rfl (lv_at hl 0 rfl) ?_
  refine lv_bipush (v := 12) hx hb dX2_init_22 (by decide) ?_
  refine va_newa (atype := .int) (ty := .int) (a0 := (12, .inl (fun _ => 0))) hx hb (hts (Cond.arrayClass .int) (wm_t (wm_l (wm_i 5 rfl)))) rfl hK hP hD hS hA (fun _ => rfl) (by decide) (by decide) (by decide) (Nat.le_of_ble_eq_true rfl) (Nat.le_of_ble_eq_true rfl) dX2_init_24 (fun q5 cA6 H => ?_)
  clear hK hP hD hS
  intro hK hP hD hS
  have ecA6 : cI = cA6 := cls_eq hK 0 4 rfl rfl
  subst ecA6
  replace hK : va_K D vwCl (ty4 cI cY cJ cQ) s := hK.sub (tys' := ty4 cI cY cJ cQ) [0, 1, 2, 3] rfl
  replace hP : va_P D vwCl [(h0, .inr (2, [.ref q1, .int 0, .int 0, .ref q3, .null, .null, .int 0, .null, .null, .null, .int 0, .int 0, .int 0, .int 0, .int 0])), (aI cY q1 300 (fun _ => 0)), (aI cI q3 12 (fun _ => 0)), (aI cI q5 12 (fun _ => 0))] H := hP
  replace hD : va_D A [(h0, .inr (2, [.ref q1, .int 0, .int 0, .ref q3, .null, .null, .int 0, .null, .null, .null, .int 0, .int 0, .int 0, .int 0, .int 0])), (aI cY q1 300 (fun _ => 0)), (aI cI q3 12 (fun _ => 0)), (aI cI q5 12 (fun _ => 0))] := hD
  refine W.widen (k := 3) (n := 324) (by first | exact Nat.le_of_ble_eq_true rfl | omega) (by first | exact Nat.le_of_ble_eq_true rfl | omega) ?_
  refine va_putF (D := D) (ci := 2) (v := .ref q5) (ty := (.array .int)) (C := RX2) (T := TX2) (N := 15) hx hb hts inX2_init_X2 tyX2 tyX2_ok nmX2 hown hK hP hD hS 0 rfl rfl 4 (by decide) (hts (Cond.fieldLink RX2 19 "PortRooms$Duties" "days" "[I") (wm_t (wm_l (wm_i 7 rfl)))) (fun _ h9 => h9) rfl hin rfl (tyX2_ok 4 (by decide)) rfl rfl (Nat.le_of_ble_eq_true rfl) dX2_init_26 (fun H locs => ?_)
  clear hP hD hS
  intro hP hD hS
  replace hP : va_P D vwCl [(h0, .inr (2, [.ref q1, .int 0, .int 0, .ref q3, .ref q5, .null, .int 0, .null, .null, .null, .int 0, .int 0, .int 0, .int 0, .int 0])), (aI cY q1 300 (fun _ => 0)), (aI cI q3 12 (fun _ => 0)), (aI cI q5 12 (fun _ => 0))] H := hP
  replace hD : va_D A [(h0, .inr (2, [.ref q1, .int 0, .int 0, .ref q3, .ref q5, .null, .int 0, .null, .null, .null, .int 0, .int 0, .int 0, .int 0, .int 0])), (aI cY q1 300 (fun _ => 0)), (aI cI q3 12 (fun _ => 0)), (aI cI q5 12 (fun _ => 0))] := hD
  refine lv_aload_n hx hb dX2_init_29 rfl (lv_at hl 0 rfl) ?_
  refine lv_bipush (v := 12) hx hb dX2_init_30 (by decide) ?_
  refine va_newa (atype := .int) (ty := .int) (a0 := (12, .inl (fun _ => 0))) hx hb (hts (Cond.arrayClass .int) (wm_t (wm_l (wm_i 5 rfl)))) rfl hK hP hD hS hA (fun _ => rfl) (by decide) (by decide) (by decide) (Nat.le_of_ble_eq_true rfl) (Nat.le_of_ble_eq_true rfl) dX2_init_32 (fun q7 cA8 H => ?_)
  clear hK hP hD hS
  intro hK hP hD hS
  have ecA8 : cI = cA8 := cls_eq hK 0 4 rfl rfl
  subst ecA8
  replace hK : va_K D vwCl (ty4 cI cY cJ cQ) s := hK.sub (tys' := ty4 cI cY cJ cQ) [0, 1, 2, 3] rfl
  replace hP : va_P D vwCl [(h0, .inr (2, [.ref q1, .int 0, .int 0, .ref q3, .ref q5, .null, .int 0, .null, .null, .null, .int 0, .int 0, .int 0, .int 0, .int 0])), (aI cY q1 300 (fun _ => 0)), (aI cI q3 12 (fun _ => 0)), (aI cI q5 12 (fun _ => 0)), (aI cI q7 12 (fun _ => 0))] H := hP
  replace hD : va_D A [(h0, .inr (2, [.ref q1, .int 0, .int 0, .ref q3, .ref q5, .null, .int 0, .null, .null, .null, .int 0, .int 0, .int 0, .int 0, .int 0])), (aI cY q1 300 (fun _ => 0)), (aI cI q3 12 (fun _ => 0)), (aI cI q5 12 (fun _ => 0)), (aI cI q7 12 (fun _ => 0))] := hD
  refine W.widen (k := 4) (n := 336) (by first | exact Nat.le_of_ble_eq_true rfl | omega) (by first | exact Nat.le_of_ble_eq_true rfl | omega) ?_
  refine va_putF (D := D) (ci := 2) (v := .ref q7) (ty := (.array .int)) (C := RX2) (T := TX2) (N := 15) hx hb hts inX2_init_X2 tyX2 tyX2_ok nmX2 hown hK hP hD hS 0 rfl rfl 5 (by decide) (hts (Cond.fieldLink RX2 22 "PortRooms$Duties" "part" "[I") (wm_t (wm_l (wm_i 8 rfl)))) (fun _ h9 => h9) rfl hin rfl (tyX2_ok 5 (by decide)) rfl rfl (Nat.le_of_ble_eq_true rfl) dX2_init_34 (fun H locs => ?_)
  clear hP hD hS
  intro hP hD hS
  replace hP : va_P D vwCl [(h0, .inr (2, [.ref q1, .int 0, .int 0, .ref q3, .ref q5, .ref q7, .int 0, .null, .null, .null, .int 0, .int 0, .int 0, .int 0, .int 0])), (aI cY q1 300 (fun _ => 0)), (aI cI q3 12 (fun _ => 0)), (aI cI q5 12 (fun _ => 0)), (aI cI q7 12 (fun _ => 0))] H := hP
  replace hD : va_D A [(h0, .inr (2, [.ref q1, .int 0, .int 0, .ref q3, .ref q5, .ref q7, .int 0, .null, .null, .null, .int 0, .int 0, .int 0, .int 0, .int 0])), (aI cY q1 300 (fun _ => 0)), (aI cI q3 12 (fun _ => 0)), (aI cI q5 12 (fun _ => 0)), (aI cI q7 12 (fun _ => 0))] := hD
  refine lv_aload_n hx hb dX2_init_37 rfl (lv_at hl 0 rfl) ?_
  refine lv_bipush (v := 12) hx hb dX2_init_38 (by decide) ?_
  refine va_newa (atype := .int) (ty := .int) (a0 := (12, .inl (fun _ => 0))) hx hb (hts (Cond.arrayClass .int) (wm_t (wm_l (wm_i 5 rfl)))) rfl hK hP hD hS hA (fun _ => rfl) (by decide) (by decide) (by decide) (Nat.le_of_ble_eq_true rfl) (Nat.le_of_ble_eq_true rfl) dX2_init_40 (fun q9 cA10 H => ?_)
  clear hK hP hD hS
  intro hK hP hD hS
  have ecA10 : cI = cA10 := cls_eq hK 0 4 rfl rfl
  subst ecA10
  replace hK : va_K D vwCl (ty4 cI cY cJ cQ) s := hK.sub (tys' := ty4 cI cY cJ cQ) [0, 1, 2, 3] rfl
  replace hP : va_P D vwCl [(h0, .inr (2, [.ref q1, .int 0, .int 0, .ref q3, .ref q5, .ref q7, .int 0, .null, .null, .null, .int 0, .int 0, .int 0, .int 0, .int 0])), (aI cY q1 300 (fun _ => 0)), (aI cI q3 12 (fun _ => 0)), (aI cI q5 12 (fun _ => 0)), (aI cI q7 12 (fun _ => 0)), (aI cI q9 12 (fun _ => 0))] H := hP
  replace hD : va_D A [(h0, .inr (2, [.ref q1, .int 0, .int 0, .ref q3, .ref q5, .ref q7, .int 0, .null, .null, .null, .int 0, .int 0, .int 0, .int 0, .int 0])), (aI cY q1 300 (fun _ => 0)), (aI cI q3 12 (fun _ => 0)), (aI cI q5 12 (fun _ => 0)), (aI cI q7 12 (fun _ => 0)), (aI cI q9 12 (fun _ => 0))] := hD
  refine W.widen (k := 5) (n := 348) (by first | exact Nat.le_of_ble_eq_true rfl | omega) (by first | exact Nat.le_of_ble_eq_true rfl | omega) ?_
  refine va_putF (D := D) (ci := 2) (v := .ref q9) (ty := (.array .int)) (C := RX2) (T := TX2) (N := 15) hx hb hts inX2_init_X2 tyX2 tyX2_ok nmX2 hown hK hP hD hS 0 rfl rfl 7 (by decide) (hts (Cond.fieldLink RX2 25 "PortRooms$Duties" "draftWhat" "[I") (wm_t (wm_l (wm_i 9 rfl)))) (fun _ h9 => h9) rfl hin rfl (tyX2_ok 7 (by decide)) rfl rfl (Nat.le_of_ble_eq_true rfl) dX2_init_42 (fun H locs => ?_)
  clear hP hD hS
  intro hP hD hS
  replace hP : va_P D vwCl [(h0, .inr (2, [.ref q1, .int 0, .int 0, .ref q3, .ref q5, .ref q7, .int 0, .ref q9, .null, .null, .int 0, .int 0, .int 0, .int 0, .int 0])), (aI cY q1 300 (fun _ => 0)), (aI cI q3 12 (fun _ => 0)), (aI cI q5 12 (fun _ => 0)), (aI cI q7 12 (fun _ => 0)), (aI cI q9 12 (fun _ => 0))] H := hP
  replace hD : va_D A [(h0, .inr (2, [.ref q1, .int 0, .int 0, .ref q3, .ref q5, .ref q7, .int 0, .ref q9, .null, .null, .int 0, .int 0, .int 0, .int 0, .int 0])), (aI cY q1 300 (fun _ => 0)), (aI cI q3 12 (fun _ => 0)), (aI cI q5 12 (fun _ => 0)), (aI cI q7 12 (fun _ => 0)), (aI cI q9 12 (fun _ => 0))] := hD
  refine lv_aload_n hx hb dX2_init_45 rfl (lv_at hl 0 rfl) ?_
  refine lv_bipush (v := 12) hx hb dX2_init_46 (by decide) ?_
  refine va_newa (atype := .int) (ty := .int) (a0 := (12, .inl (fun _ => 0))) hx hb (hts (Cond.arrayClass .int) (wm_t (wm_l (wm_i 5 rfl)))) rfl hK hP hD hS hA (fun _ => rfl) (by decide) (by decide) (by decide) (Nat.le_of_ble_eq_true rfl) (Nat.le_of_ble_eq_true rfl) dX2_init_48 (fun q11 cA12 H => ?_)
  clear hK hP hD hS
  intro hK hP hD hS
  have ecA12 : cI = cA12 := cls_eq hK 0 4 rfl rfl
  subst ecA12
  replace hK : va_K D vwCl (ty4 cI cY cJ cQ) s := hK.sub (tys' := ty4 cI cY cJ cQ) [0, 1, 2, 3] rfl
  replace hP : va_P D vwCl [(h0, .inr (2, [.ref q1, .int 0, .int 0, .ref q3, .ref q5, .ref q7, .int 0, .ref q9, .null, .null, .int 0, .int 0, .int 0, .int 0, .int 0])), (aI cY q1 300 (fun _ => 0)), (aI cI q3 12 (fun _ => 0)), (aI cI q5 12 (fun _ => 0)), (aI cI q7 12 (fun _ => 0)), (aI cI q9 12 (fun _ => 0)), (aI cI q11 12 (fun _ => 0))] H := hP
  replace hD : va_D A [(h0, .inr (2, [.ref q1, .int 0, .int 0, .ref q3, .ref q5, .ref q7, .int 0, .ref q9, .null, .null, .int 0, .int 0, .int 0, .int 0, .int 0])), (aI cY q1 300 (fun _ => 0)), (aI cI q3 12 (fun _ => 0)), (aI cI q5 12 (fun _ => 0)), (aI cI q7 12 (fun _ => 0)), (aI cI q9 12 (fun _ => 0)), (aI cI q11 12 (fun _ => 0))] := hD
  refine W.widen (k := 6) (n := 360) (by first | exact Nat.le_of_ble_eq_true rfl | omega) (by first | exact Nat.le_of_ble_eq_true rfl | omega) ?_
  refine va_putF (D := D) (ci := 2) (v := .ref q11) (ty := (.array .int)) (C := RX2) (T := TX2) (N := 15) hx hb hts inX2_init_X2 tyX2 tyX2_ok nmX2 hown hK hP hD hS 0 rfl rfl 8 (by decide) (hts (Cond.fieldLink RX2 28 "PortRooms$Duties" "draftDays" "[I") (wm_t (wm_l (wm_i 10 rfl)))) (fun _ h9 => h9) rfl hin rfl (tyX2_ok 8 (by decide)) rfl rfl (Nat.le_of_ble_eq_true rfl) dX2_init_50 (fun H locs => ?_)
  clear hP hD hS
  intro hP hD hS
  replace hP : va_P D vwCl [(h0, .inr (2, [.ref q1, .int 0, .int 0, .ref q3, .ref q5, .ref q7, .int 0, .ref q9, .ref q11, .null, .int 0, .int 0, .int 0, .int 0, .int 0])), (aI cY q1 300 (fun _ => 0)), (aI cI q3 12 (fun _ => 0)), (aI cI q5 12 (fun _ => 0)), (aI cI q7 12 (fun _ => 0)), (aI cI q9 12 (fun _ => 0)), (aI cI q11 12 (fun _ => 0))] H := hP
  replace hD : va_D A [(h0, .inr (2, [.ref q1, .int 0, .int 0, .ref q3, .ref q5, .ref q7, .int 0, .ref q9, .ref q11, .null, .int 0, .int 0, .int 0, .int 0, .int 0])), (aI cY q1 300 (fun _ => 0)), (aI cI q3 12 (fun _ => 0)), (aI cI q5 12 (fun _ => 0)), (aI cI q7 12 (fun _ => 0)), (aI cI q9 12 (fun _ => 0)), (aI cI q11 12 (fun _ => 0))] := hD
  refine lv_aload_n hx hb dX2_init_53 rfl (lv_at hl 0 rfl) ?_
  refine lv_bipush (v := 12) hx hb dX2_init_54 (by decide) ?_
  refine va_newa (atype := .int) (ty := .int) (a0 := (12, .inl (fun _ => 0))) hx hb (hts (Cond.arrayClass .int) (wm_t (wm_l (wm_i 5 rfl)))) rfl hK hP hD hS hA (fun _ => rfl) (by decide) (by decide) (by decide) (Nat.le_of_ble_eq_true rfl) (Nat.le_of_ble_eq_true rfl) dX2_init_56 (fun q13 cA14 H => ?_)
  clear hK hP hD hS
  intro hK hP hD hS
  have ecA14 : cI = cA14 := cls_eq hK 0 4 rfl rfl
  subst ecA14
  replace hK : va_K D vwCl (ty4 cI cY cJ cQ) s := hK.sub (tys' := ty4 cI cY cJ cQ) [0, 1, 2, 3] rfl
  replace hP : va_P D vwCl [(h0, .inr (2, [.ref q1, .int 0, .int 0, .ref q3, .ref q5, .ref q7, .int 0, .ref q9, .ref q11, .null, .int 0, .int 0, .int 0, .int 0, .int 0])), (aI cY q1 300 (fun _ => 0)), (aI cI q3 12 (fun _ => 0)), (aI cI q5 12 (fun _ => 0)), (aI cI q7 12 (fun _ => 0)), (aI cI q9 12 (fun _ => 0)), (aI cI q11 12 (fun _ => 0)), (aI cI q13 12 (fun _ => 0))] H := hP
  replace hD : va_D A [(h0, .inr (2, [.ref q1, .int 0, .int 0, .ref q3, .ref q5, .ref q7, .int 0, .ref q9, .ref q11, .null, .int 0, .int 0, .int 0, .int 0, .int 0])), (aI cY q1 300 (fun _ => 0)), (aI cI q3 12 (fun _ => 0)), (aI cI q5 12 (fun _ => 0)), (aI cI q7 12 (fun _ => 0)), (aI cI q9 12 (fun _ => 0)), (aI cI q11 12 (fun _ => 0)), (aI cI q13 12 (fun _ => 0))] := hD
  refine W.widen (k := 7) (n := 372) (by first | exact Nat.le_of_ble_eq_true rfl | omega) (by first | exact Nat.le_of_ble_eq_true rfl | omega) ?_
  refine va_putF (D := D) (ci := 2) (v := .ref q13) (ty := (.array .int)) (C := RX2) (T := TX2) (N := 15) hx hb hts inX2_init_X2 tyX2 tyX2_ok nmX2 hown hK hP hD hS 0 rfl rfl 9 (by decide) (hts (Cond.fieldLink RX2 31 "PortRooms$Duties" "draftPart" "[I") (wm_t (wm_l (wm_i 11 rfl)))) (fun _ h9 => h9) rfl hin rfl (tyX2_ok 9 (by decide)) rfl rfl (Nat.le_of_ble_eq_true rfl) dX2_init_58 (fun H locs => ?_)
  clear hP hD hS
  intro hP hD hS
  replace hP : va_P D vwCl [(h0, .inr (2, [.ref q1, .int 0, .int 0, .ref q3, .ref q5, .ref q7, .int 0, .ref q9, .ref q11, .ref q13, .int 0, .int 0, .int 0, .int 0, .int 0])), (aI cY q1 300 (fun _ => 0)), (aI cI q3 12 (fun _ => 0)), (aI cI q5 12 (fun _ => 0)), (aI cI q7 12 (fun _ => 0)), (aI cI q9 12 (fun _ => 0)), (aI cI q11 12 (fun _ => 0)), (aI cI q13 12 (fun _ => 0))] H := hP
  replace hD : va_D A [(h0, .inr (2, [.ref q1, .int 0, .int 0, .ref q3, .ref q5, .ref q7, .int 0, .ref q9, .ref q11, .ref q13, .int 0, .int 0, .int 0, .int 0, .int 0])), (aI cY q1 300 (fun _ => 0)), (aI cI q3 12 (fun _ => 0)), (aI cI q5 12 (fun _ => 0)), (aI cI q7 12 (fun _ => 0)), (aI cI q9 12 (fun _ => 0)), (aI cI q11 12 (fun _ => 0)), (aI cI q13 12 (fun _ => 0))] := hD
  have hP9 := hP.sub (ws' := [(h0, .inr (2, [.ref q1, .int 0, .int 0, .ref q3, .ref q5, .ref q7, .int 0, .ref q9, .ref q11, .ref q13, .int 0, .int 0, .int 0, .int 0, .int 0])), (aI cY q1 300 (fun _ => 0)), (aI cI q3 12 (fun _ => 0)), (aI cI q5 12 (fun _ => 0)), (aI cI q7 12 (fun _ => 0)), (aI cI q9 12 (fun _ => 0)), (aI cI q11 12 (fun _ => 0)), (aI cI q13 12 (fun _ => 0))]) [0, 1, 2, 3, 4, 5, 6, 7] rfl
  have hD9 := hD.sub (ws' := [(h0, .inr (2, [.ref q1, .int 0, .int 0, .ref q3, .ref q5, .ref q7, .int 0, .ref q9, .ref q11, .ref q13, .int 0, .int 0, .int 0, .int 0, .int 0])), (aI cY q1 300 (fun _ => 0)), (aI cI q3 12 (fun _ => 0)), (aI cI q5 12 (fun _ => 0)), (aI cI q7 12 (fun _ => 0)), (aI cI q9 12 (fun _ => 0)), (aI cI q11 12 (fun _ => 0)), (aI cI q13 12 (fun _ => 0))]) [0, 1, 2, 3, 4, 5, 6, 7] (by decide +kernel) rfl
  exact W.vret hx hb hr (fun t ht hW => ⟨⟨(fun k => ([q1, 0, 0, q3, q5, q7, 0, q9, q11, q13, 0, 0, 0, 0, 0] : List Nat).getD k 0), rfl, trivial, by rw [ht]; exact hP9, va_K.moved hW.alike hK, hD9⟩, hS.F ht⟩) hS.2.2 dX2_init_61

set_option maxHeartbeats 4000000 in
set_option maxRecDepth 100000 in
theorem ct_X0_init (l : Launch) (D : va_G) (cI cY cJ cQ : ClassId) (sz : Nat) (h0 : Nat)   : Met l yX0_init wsX0_init ({ frames := 1, cells := 4, slots := 240, locals := 12 }) (cPre D (ty4 cI cY cJ cQ) [(h0, .inr (0, [.null, .null, .null, .null, .int 0]))] sz [.ref h0]) (va_Qv (fun (u : Nat → Nat) => True) (cB D (ty4 cI cY cJ cQ) (fun (u : Nat → Nat) => [(h0, .inr (0, [.ref (u 0), .ref (u 1), .ref (u 2), .ref (u 3), .int 0])), (aI cI (u 0) 60 (fun _ => 0)), (aI cI (u 1) 60 (fun _ => 0)), (aI cI (u 2) 60 (fun _ => 0)), (aI cI (u 3) 60 (fun _ => 0))]) (va_A [(h0, .inr (0, [.null, .null, .null, .null, .int 0]))] sz)) (va_A [(h0, .inr (0, [.null, .null, .null, .null, .int 0]))] sz)) 4 240 (va_A [(h0, .inr (0, [.null, .null, .null, .null, .int 0]))] sz) := by
  refine Met.ofW (cc := cX0_init) (maxL := 1) (ret := none) (by decide) rfl ?_
  intro p e s m args below meth c s₁ B hml hv
  obtain ⟨rfl, hsz, hP, hK, hD0, hN⟩ := hv
  have hx := B.exec
  have hb := B.bytes
  have hr := B.returns
  have hts := atoms_spec (ws := wsX0_init) B.pre
  have hown : s.vm.findClass RX0 = some m.cls := findClass_of_methodNamed B.named
  have hlocks := B.notSynchronized
  have hin : meth.name = "<init>" := (name_of_methodNamed B.named B.method).1
  subst hsz
  have hD := hD0.self (sz := s.heap.size)
  generalize hAe : va_A [(h0, .inr (0, [.null, .null, .null, .null, .int 0]))] s.heap.size = A at hD ⊢
  have hA : ∀ q : Nat, s.heap.size ≤ q → A q := fun q h => by rw [← hAe]; exact Or.inr h
  have hS : va_S A s.heap s.heap [] := va_S.rf
  have hP : va_P D vwCl [(h0, .inr (0, [.null, .null, .null, .null, .int 0]))] s.heap := hP
  have hl := lv_entry ([.ref h0]) (n := 1) (Nat.le_of_ble_eq_true rfl)
  rw [lg_entry_eq]
  generalize (lg_sl ([.ref h0]) ++ List.replicate (1 - (lg_sl ([.ref h0])).length) Slot.unset).toArray = ls at hl ⊢
  have hl : lv_has ls 1 [(0, .ref h0)] := hl
  refine lv_aload_n hx hb dX0_init_0 rfl (lv_at hl 0 rfl) ?_
  refine W.objInit hx hb hown (hts (Cond.methodLink RX0 3 objectInit) (wm_t (wm_l (wm_i 0 rfl)))) (hts (Cond.instanceMethod objectInit) (wm_t (wm_l (wm_i 1 rfl)))) (hts _ (by decide +kernel)) rfl (by rw [hml]; exact hl.1) rfl dX0_init_1 (Nat.le_of_ble_eq_true rfl) (Nat.le_of_ble_eq_true rfl) ?_
  refine W.eq (g2 := F0 m 4 ls []) rfl ?_
  refine lv_aload_n hx hb dX0_init_4 rfl (lv_at hl 0 rfl) ?_
  refine lv_bipush (v := 60) hx hb dX0_init_5 (by decide) ?_
  refine va_newa (atype := .int) (ty := .int) (a0 := (60, .inl (fun _ => 0))) hx hb (hts (Cond.arrayClass .int) (wm_t (wm_l (wm_i 3 rfl)))) rfl hK hP hD hS hA (fun _ => rfl) (by decide) (by decide) (by decide) (Nat.le_of_ble_eq_true rfl) (Nat.le_of_ble_eq_true rfl) dX0_init_7 (fun q1 cA2 H => ?_)
  clear hK hP hD hS
  intro hK hP hD hS
  have ecA2 : cI = cA2 := cls_eq hK 0 4 rfl rfl
  subst ecA2
  replace hK : va_K D vwCl (ty4 cI cY cJ cQ) s := hK.sub (tys' := ty4 cI cY cJ cQ) [0, 1, 2, 3] rfl
  replace hP : va_P D vwCl [(h0, .inr (0, [.null, .null, .null, .null, .int 0])), (aI cI q1 60 (fun _ => 0))] H := hP
  replace hD : va_D A [(h0, .inr (0, [.null, .null, .null, .null, .int 0])), (aI cI q1 60 (fun _ => 0))] := hD
  refine W.widen (k := 1) (n := 60) (by first | exact Nat.le_of_ble_eq_true rfl | omega) (by first | exact Nat.le_of_ble_eq_true rfl | omega) ?_
  refine va_putF (D := D) (ci := 0) (v := .ref q1) (ty := (.array .int)) (C := RX0) (T := TX0) (N := 5) hx hb hts inX0_init_X0 tyX0 tyX0_ok nmX0 hown hK hP hD hS 0 rfl rfl 0 (by decide) (hts (Cond.fieldLink RX0 9 "PortRooms$Acts" "crate" "[I") (wm_t (wm_l (wm_i 4 rfl)))) (fun _ h9 => h9) rfl hin rfl (tyX0_ok 0 (by decide)) rfl rfl (Nat.le_of_ble_eq_true rfl) dX0_init_9 (fun H locs => ?_)
  clear hP hD hS
  intro hP hD hS
  replace hP : va_P D vwCl [(h0, .inr (0, [.ref q1, .null, .null, .null, .int 0])), (aI cI q1 60 (fun _ => 0))] H := hP
  replace hD : va_D A [(h0, .inr (0, [.ref q1, .null, .null, .null, .int 0])), (aI cI q1 60 (fun _ => 0))] := hD
  refine lv_aload_n hx hb dX0_init_12 rfl (lv_at hl 0 rfl) ?_
  refine lv_bipush (v := 60) hx hb dX0_init_13 (by decide) ?_
  refine va_newa (atype := .int) (ty := .int) (a0 := (60, .inl (fun _ => 0))) hx hb (hts (Cond.arrayClass .int) (wm_t (wm_l (wm_i 3 rfl)))) rfl hK hP hD hS hA (fun _ => rfl) (by decide) (by decide) (by decide) (Nat.le_of_ble_eq_true rfl) (Nat.le_of_ble_eq_true rfl) dX0_init_15 (fun q3 cA4 H => ?_)
  clear hK hP hD hS
  intro hK hP hD hS
  have ecA4 : cI = cA4 := cls_eq hK 0 4 rfl rfl
  subst ecA4
  replace hK : va_K D vwCl (ty4 cI cY cJ cQ) s := hK.sub (tys' := ty4 cI cY cJ cQ) [0, 1, 2, 3] rfl
  replace hP : va_P D vwCl [(h0, .inr (0, [.ref q1, .null, .null, .null, .int 0])), (aI cI q1 60 (fun _ => 0)), (aI cI q3 60 (fun _ => 0))] H := hP
  replace hD : va_D A [(h0, .inr (0, [.ref q1, .null, .null, .null, .int 0])), (aI cI q1 60 (fun _ => 0)), (aI cI q3 60 (fun _ => 0))] := hD
  refine W.widen (k := 2) (n := 120) (by first | exact Nat.le_of_ble_eq_true rfl | omega) (by first | exact Nat.le_of_ble_eq_true rfl | omega) ?_
  refine va_putF (D := D) (ci := 0) (v := .ref q3) (ty := (.array .int)) (C := RX0) (T := TX0) (N := 5) hx hb hts inX0_init_X0 tyX0 tyX0_ok nmX0 hown hK hP hD hS 0 rfl rfl 1 (by decide) (hts (Cond.fieldLink RX0 15 "PortRooms$Acts" "what" "[I") (wm_t (wm_l (wm_i 5 rfl)))) (fun _ h9 => h9) rfl hin rfl (tyX0_ok 1 (by decide)) rfl rfl (Nat.le_of_ble_eq_true rfl) dX0_init_17 (fun H locs => ?_)
  clear hP hD hS
  intro hP hD hS
  replace hP : va_P D vwCl [(h0, .inr (0, [.ref q1, .ref q3, .null, .null, .int 0])), (aI cI q1 60 (fun _ => 0)), (aI cI q3 60 (fun _ => 0))] H := hP
  replace hD : va_D A [(h0, .inr (0, [.ref q1, .ref q3, .null, .null, .int 0])), (aI cI q1 60 (fun _ => 0)), (aI cI q3 60 (fun _ => 0))] := hD
  refine lv_aload_n hx hb dX0_init_20 rfl (lv_at hl 0 rfl) ?_
  refine lv_bipush (v := 60) hx hb dX0_init_21 (by decide) ?_
  refine va_newa (atype := .int) (ty := .int) (a0 := (60, .inl (fun _ => 0))) hx hb (hts (Cond.arrayClass .int) (wm_t (wm_l (wm_i 3 rfl)))) rfl hK hP hD hS hA (fun _ => rfl) (by decide) (by decide) (by decide) (Nat.le_of_ble_eq_true rfl) (Nat.le_of_ble_eq_true rfl) dX0_init_23 (fun q5 cA6 H => ?_)
  clear hK hP hD hS
  intro hK hP hD hS
  have ecA6 : cI = cA6 := cls_eq hK 0 4 rfl rfl
  subst ecA6
  replace hK : va_K D vwCl (ty4 cI cY cJ cQ) s := hK.sub (tys' := ty4 cI cY cJ cQ) [0, 1, 2, 3] rfl
  replace hP : va_P D vwCl [(h0, .inr (0, [.ref q1, .ref q3, .null, .null, .int 0])), (aI cI q1 60 (fun _ => 0)), (aI cI q3 60 (fun _ => 0)), (aI cI q5 60 (fun _ => 0))] H := hP
  replace hD : va_D A [(h0, .inr (0, [.ref q1, .ref q3, .null, .null, .int 0])), (aI cI q1 60 (fun _ => 0)), (aI cI q3 60 (fun _ => 0)), (aI cI q5 60 (fun _ => 0))] := hD
  refine W.widen (k := 3) (n := 180) (by first | exact Nat.le_of_ble_eq_true rfl | omega) (by first | exact Nat.le_of_ble_eq_true rfl | omega) ?_
  refine va_putF (D := D) (ci := 0) (v := .ref q5) (ty := (.array .int)) (C := RX0) (T := TX0) (N := 5) hx hb hts inX0_init_X0 tyX0 tyX0_ok nmX0 hown hK hP hD hS 0 rfl rfl 2 (by decide) (hts (Cond.fieldLink RX0 18 "PortRooms$Acts" "day" "[I") (wm_t (wm_l (wm_i 6 rfl)))) (fun _ h9 => h9) rfl hin rfl (tyX0_ok 2 (by decide)) rfl rfl (Nat.le_of_ble_eq_true rfl) dX0_init_25 (fun H locs => ?_)
  clear hP hD hS
  intro hP hD hS
  replace hP : va_P D vwCl [(h0, .inr (0, [.ref q1, .ref q3, .ref q5, .null, .int 0])), (aI cI q1 60 (fun _ => 0)), (aI cI q3 60 (fun _ => 0)), (aI cI q5 60 (fun _ => 0))] H := hP
  replace hD : va_D A [(h0, .inr (0, [.ref q1, .ref q3, .ref q5, .null, .int 0])), (aI cI q1 60 (fun _ => 0)), (aI cI q3 60 (fun _ => 0)), (aI cI q5 60 (fun _ => 0))] := hD
  refine lv_aload_n hx hb dX0_init_28 rfl (lv_at hl 0 rfl) ?_
  refine lv_bipush (v := 60) hx hb dX0_init_29 (by decide) ?_
  refine va_newa (atype := .int) (ty := .int) (a0 := (60, .inl (fun _ => 0))) hx hb (hts (Cond.arrayClass .int) (wm_t (wm_l (wm_i 3 rfl)))) rfl hK hP hD hS hA (fun _ => rfl) (by decide) (by decide) (by decide) (Nat.le_of_ble_eq_true rfl) (Nat.le_of_ble_eq_true rfl) dX0_init_31 (fun q7 cA8 H => ?_)
  clear hK hP hD hS
  intro hK hP hD hS
  have ecA8 : cI = cA8 := cls_eq hK 0 4 rfl rfl
  subst ecA8
  replace hK : va_K D vwCl (ty4 cI cY cJ cQ) s := hK.sub (tys' := ty4 cI cY cJ cQ) [0, 1, 2, 3] rfl
  replace hP : va_P D vwCl [(h0, .inr (0, [.ref q1, .ref q3, .ref q5, .null, .int 0])), (aI cI q1 60 (fun _ => 0)), (aI cI q3 60 (fun _ => 0)), (aI cI q5 60 (fun _ => 0)), (aI cI q7 60 (fun _ => 0))] H := hP
  replace hD : va_D A [(h0, .inr (0, [.ref q1, .ref q3, .ref q5, .null, .int 0])), (aI cI q1 60 (fun _ => 0)), (aI cI q3 60 (fun _ => 0)), (aI cI q5 60 (fun _ => 0)), (aI cI q7 60 (fun _ => 0))] := hD
  refine W.widen (k := 4) (n := 240) (by first | exact Nat.le_of_ble_eq_true rfl | omega) (by first | exact Nat.le_of_ble_eq_true rfl | omega) ?_
  refine va_putF (D := D) (ci := 0) (v := .ref q7) (ty := (.array .int)) (C := RX0) (T := TX0) (N := 5) hx hb hts inX0_init_X0 tyX0 tyX0_ok nmX0 hown hK hP hD hS 0 rfl rfl 3 (by decide) (hts (Cond.fieldLink RX0 21 "PortRooms$Acts" "days" "[I") (wm_t (wm_l (wm_i 7 rfl)))) (fun _ h9 => h9) rfl hin rfl (tyX0_ok 3 (by decide)) rfl rfl (Nat.le_of_ble_eq_true rfl) dX0_init_33 (fun H locs => ?_)
  clear hP hD hS
  intro hP hD hS
  replace hP : va_P D vwCl [(h0, .inr (0, [.ref q1, .ref q3, .ref q5, .ref q7, .int 0])), (aI cI q1 60 (fun _ => 0)), (aI cI q3 60 (fun _ => 0)), (aI cI q5 60 (fun _ => 0)), (aI cI q7 60 (fun _ => 0))] H := hP
  replace hD : va_D A [(h0, .inr (0, [.ref q1, .ref q3, .ref q5, .ref q7, .int 0])), (aI cI q1 60 (fun _ => 0)), (aI cI q3 60 (fun _ => 0)), (aI cI q5 60 (fun _ => 0)), (aI cI q7 60 (fun _ => 0))] := hD
  have hP9 := hP.sub (ws' := [(h0, .inr (0, [.ref q1, .ref q3, .ref q5, .ref q7, .int 0])), (aI cI q1 60 (fun _ => 0)), (aI cI q3 60 (fun _ => 0)), (aI cI q5 60 (fun _ => 0)), (aI cI q7 60 (fun _ => 0))]) [0, 1, 2, 3, 4] rfl
  have hD9 := hD.sub (ws' := [(h0, .inr (0, [.ref q1, .ref q3, .ref q5, .ref q7, .int 0])), (aI cI q1 60 (fun _ => 0)), (aI cI q3 60 (fun _ => 0)), (aI cI q5 60 (fun _ => 0)), (aI cI q7 60 (fun _ => 0))]) [0, 1, 2, 3, 4] (by decide +kernel) rfl
  exact W.vret hx hb hr (fun t ht hW => ⟨⟨(fun k => ([q1, q3, q5, q7, 0] : List Nat).getD k 0), rfl, trivial, by rw [ht]; exact hP9, va_K.moved hW.alike hK, hD9⟩, hS.F ht⟩) hS.2.2 dX0_init_36

set_option maxHeartbeats 4000000 in
set_option maxRecDepth 100000 in
theorem ct_X6_init (l : Launch) (D : va_G) (cI cY cJ cQ : ClassId) (sz : Nat) (h0 : Nat)   : Met l yX6_init wsX6_init ({ frames := 1, cells := 4, slots := 240, locals := 12 }) (cPre D (ty4 cI cY cJ cQ) [(h0, .inr (6, [.null, .null, .null, .null, .int 0]))] sz [.ref h0]) (va_Qv (fun (u : Nat → Nat) => True) (cB D (ty4 cI cY cJ cQ) (fun (u : Nat → Nat) => [(h0, .inr (6, [.ref (u 0), .ref (u 1), .ref (u 2), .ref (u 3), .int 0])), (aI cI (u 0) 60 (fun _ => 0)), (aI cI (u 1) 60 (fun _ => 0)), (aI cI (u 2) 60 (fun _ => 0)), (aI cI (u 3) 60 (fun _ => 0))]) (va_A [(h0, .inr (6, [.null, .null, .null, .null, .int 0]))] sz)) (va_A [(h0, .inr (6, [.null, .null, .null, .null, .int 0]))] sz)) 4 240 (va_A [(h0, .inr (6, [.null, .null, .null, .null, .int 0]))] sz) := by
  refine Met.ofW (cc := cX6_init) (maxL := 1) (ret := none) (by decide) rfl ?_
  intro p e s m args below meth c s₁ B hml hv
  obtain ⟨rfl, hsz, hP, hK, hD0, hN⟩ := hv
  have hx := B.exec
  have hb := B.bytes
  have hr := B.returns
  have hts := atoms_spec (ws := wsX6_init) B.pre
  have hown : s.vm.findClass RX6 = some m.cls := findClass_of_methodNamed B.named
  have hlocks := B.notSynchronized
  have hin : meth.name = "<init>" := (name_of_methodNamed B.named B.method).1
  subst hsz
  have hD := hD0.self (sz := s.heap.size)
  generalize hAe : va_A [(h0, .inr (6, [.null, .null, .null, .null, .int 0]))] s.heap.size = A at hD ⊢
  have hA : ∀ q : Nat, s.heap.size ≤ q → A q := fun q h => by rw [← hAe]; exact Or.inr h
  have hS : va_S A s.heap s.heap [] := va_S.rf
  have hP : va_P D vwCl [(h0, .inr (6, [.null, .null, .null, .null, .int 0]))] s.heap := hP
  have hl := lv_entry ([.ref h0]) (n := 1) (Nat.le_of_ble_eq_true rfl)
  rw [lg_entry_eq]
  generalize (lg_sl ([.ref h0]) ++ List.replicate (1 - (lg_sl ([.ref h0])).length) Slot.unset).toArray = ls at hl ⊢
  have hl : lv_has ls 1 [(0, .ref h0)] := hl
  refine lv_aload_n hx hb dX6_init_0 rfl (lv_at hl 0 rfl) ?_
  refine W.objInit hx hb hown (hts (Cond.methodLink RX6 3 objectInit) (wm_t (wm_l (wm_i 0 rfl)))) (hts (Cond.instanceMethod objectInit) (wm_t (wm_l (wm_i 1 rfl)))) (hts _ (by decide +kernel)) rfl (by rw [hml]; exact hl.1) rfl dX6_init_1 (Nat.le_of_ble_eq_true rfl) (Nat.le_of_ble_eq_true rfl) ?_
  refine W.eq (g2 := F0 m 4 ls []) rfl ?_
  refine lv_aload_n hx hb dX6_init_4 rfl (lv_at hl 0 rfl) ?_
  refine lv_bipush (v := 60) hx hb dX6_init_5 (by decide) ?_
  refine va_newa (atype := .int) (ty := .int) (a0 := (60, .inl (fun _ => 0))) hx hb (hts (Cond.arrayClass .int) (wm_t (wm_l (wm_i 3 rfl)))) rfl hK hP hD hS hA (fun _ => rfl) (by decide) (by decide) (by decide) (Nat.le_of_ble_eq_true rfl) (Nat.le_of_ble_eq_true rfl) dX6_init_7 (fun q1 cA2 H => ?_)
  clear hK hP hD hS
  intro hK hP hD hS
  have ecA2 : cI = cA2 := cls_eq hK 0 4 rfl rfl
  subst ecA2
  replace hK : va_K D vwCl (ty4 cI cY cJ cQ) s := hK.sub (tys' := ty4 cI cY cJ cQ) [0, 1, 2, 3] rfl
  replace hP : va_P D vwCl [(h0, .inr (6, [.null, .null, .null, .null, .int 0])), (aI cI q1 60 (fun _ => 0))] H := hP
  replace hD : va_D A [(h0, .inr (6, [.null, .null, .null, .null, .int 0])), (aI cI q1 60 (fun _ => 0))] := hD
  refine W.widen (k := 1) (n := 60) (by first | exact Nat.le_of_ble_eq_true rfl | omega) (by first | exact Nat.le_of_ble_eq_true rfl | omega) ?_
  refine va_putF (D := D) (ci := 6) (v := .ref q1) (ty := (.array .int)) (C := RX6) (T := TX6) (N := 5) hx hb hts inX6_init_X6 tyX6 tyX6_ok nmX6 hown hK hP hD hS 0 rfl rfl 0 (by decide) (hts (Cond.fieldLink RX6 9 "PortRooms$Openings" "crate" "[I") (wm_t (wm_l (wm_i 4 rfl)))) (fun _ h9 => h9) rfl hin rfl (tyX6_ok 0 (by decide)) rfl rfl (Nat.le_of_ble_eq_true rfl) dX6_init_9 (fun H locs => ?_)
  clear hP hD hS
  intro hP hD hS
  replace hP : va_P D vwCl [(h0, .inr (6, [.ref q1, .null, .null, .null, .int 0])), (aI cI q1 60 (fun _ => 0))] H := hP
  replace hD : va_D A [(h0, .inr (6, [.ref q1, .null, .null, .null, .int 0])), (aI cI q1 60 (fun _ => 0))] := hD
  refine lv_aload_n hx hb dX6_init_12 rfl (lv_at hl 0 rfl) ?_
  refine lv_bipush (v := 60) hx hb dX6_init_13 (by decide) ?_
  refine va_newa (atype := .int) (ty := .int) (a0 := (60, .inl (fun _ => 0))) hx hb (hts (Cond.arrayClass .int) (wm_t (wm_l (wm_i 3 rfl)))) rfl hK hP hD hS hA (fun _ => rfl) (by decide) (by decide) (by decide) (Nat.le_of_ble_eq_true rfl) (Nat.le_of_ble_eq_true rfl) dX6_init_15 (fun q3 cA4 H => ?_)
  clear hK hP hD hS
  intro hK hP hD hS
  have ecA4 : cI = cA4 := cls_eq hK 0 4 rfl rfl
  subst ecA4
  replace hK : va_K D vwCl (ty4 cI cY cJ cQ) s := hK.sub (tys' := ty4 cI cY cJ cQ) [0, 1, 2, 3] rfl
  replace hP : va_P D vwCl [(h0, .inr (6, [.ref q1, .null, .null, .null, .int 0])), (aI cI q1 60 (fun _ => 0)), (aI cI q3 60 (fun _ => 0))] H := hP
  replace hD : va_D A [(h0, .inr (6, [.ref q1, .null, .null, .null, .int 0])), (aI cI q1 60 (fun _ => 0)), (aI cI q3 60 (fun _ => 0))] := hD
  refine W.widen (k := 2) (n := 120) (by first | exact Nat.le_of_ble_eq_true rfl | omega) (by first | exact Nat.le_of_ble_eq_true rfl | omega) ?_
  refine va_putF (D := D) (ci := 6) (v := .ref q3) (ty := (.array .int)) (C := RX6) (T := TX6) (N := 5) hx hb hts inX6_init_X6 tyX6 tyX6_ok nmX6 hown hK hP hD hS 0 rfl rfl 1 (by decide) (hts (Cond.fieldLink RX6 15 "PortRooms$Openings" "day" "[I") (wm_t (wm_l (wm_i 5 rfl)))) (fun _ h9 => h9) rfl hin rfl (tyX6_ok 1 (by decide)) rfl rfl (Nat.le_of_ble_eq_true rfl) dX6_init_17 (fun H locs => ?_)
  clear hP hD hS
  intro hP hD hS
  replace hP : va_P D vwCl [(h0, .inr (6, [.ref q1, .ref q3, .null, .null, .int 0])), (aI cI q1 60 (fun _ => 0)), (aI cI q3 60 (fun _ => 0))] H := hP
  replace hD : va_D A [(h0, .inr (6, [.ref q1, .ref q3, .null, .null, .int 0])), (aI cI q1 60 (fun _ => 0)), (aI cI q3 60 (fun _ => 0))] := hD
  refine lv_aload_n hx hb dX6_init_20 rfl (lv_at hl 0 rfl) ?_
  refine lv_bipush (v := 60) hx hb dX6_init_21 (by decide) ?_
  refine va_newa (atype := .int) (ty := .int) (a0 := (60, .inl (fun _ => 0))) hx hb (hts (Cond.arrayClass .int) (wm_t (wm_l (wm_i 3 rfl)))) rfl hK hP hD hS hA (fun _ => rfl) (by decide) (by decide) (by decide) (Nat.le_of_ble_eq_true rfl) (Nat.le_of_ble_eq_true rfl) dX6_init_23 (fun q5 cA6 H => ?_)
  clear hK hP hD hS
  intro hK hP hD hS
  have ecA6 : cI = cA6 := cls_eq hK 0 4 rfl rfl
  subst ecA6
  replace hK : va_K D vwCl (ty4 cI cY cJ cQ) s := hK.sub (tys' := ty4 cI cY cJ cQ) [0, 1, 2, 3] rfl
  replace hP : va_P D vwCl [(h0, .inr (6, [.ref q1, .ref q3, .null, .null, .int 0])), (aI cI q1 60 (fun _ => 0)), (aI cI q3 60 (fun _ => 0)), (aI cI q5 60 (fun _ => 0))] H := hP
  replace hD : va_D A [(h0, .inr (6, [.ref q1, .ref q3, .null, .null, .int 0])), (aI cI q1 60 (fun _ => 0)), (aI cI q3 60 (fun _ => 0)), (aI cI q5 60 (fun _ => 0))] := hD
  refine W.widen (k := 3) (n := 180) (by first | exact Nat.le_of_ble_eq_true rfl | omega) (by first | exact Nat.le_of_ble_eq_true rfl | omega) ?_
  refine va_putF (D := D) (ci := 6) (v := .ref q5) (ty := (.array .int)) (C := RX6) (T := TX6) (N := 5) hx hb hts inX6_init_X6 tyX6 tyX6_ok nmX6 hown hK hP hD hS 0 rfl rfl 2 (by decide) (hts (Cond.fieldLink RX6 18 "PortRooms$Openings" "weight" "[I") (wm_t (wm_l (wm_i 6 rfl)))) (fun _ h9 => h9) rfl hin rfl (tyX6_ok 2 (by decide)) rfl rfl (Nat.le_of_ble_eq_true rfl) dX6_init_25 (fun H locs => ?_)
  clear hP hD hS
  intro hP hD hS
  replace hP : va_P D vwCl [(h0, .inr (6, [.ref q1, .ref q3, .ref q5, .null, .int 0])), (aI cI q1 60 (fun _ => 0)), (aI cI q3 60 (fun _ => 0)), (aI cI q5 60 (fun _ => 0))] H := hP
  replace hD : va_D A [(h0, .inr (6, [.ref q1, .ref q3, .ref q5, .null, .int 0])), (aI cI q1 60 (fun _ => 0)), (aI cI q3 60 (fun _ => 0)), (aI cI q5 60 (fun _ => 0))] := hD
  refine lv_aload_n hx hb dX6_init_28 rfl (lv_at hl 0 rfl) ?_
  refine lv_bipush (v := 60) hx hb dX6_init_29 (by decide) ?_
  refine va_newa (atype := .int) (ty := .int) (a0 := (60, .inl (fun _ => 0))) hx hb (hts (Cond.arrayClass .int) (wm_t (wm_l (wm_i 3 rfl)))) rfl hK hP hD hS hA (fun _ => rfl) (by decide) (by decide) (by decide) (Nat.le_of_ble_eq_true rfl) (Nat.le_of_ble_eq_true rfl) dX6_init_31 (fun q7 cA8 H => ?_)
  clear hK hP hD hS
  intro hK hP hD hS
  have ecA8 : cI = cA8 := cls_eq hK 0 4 rfl rfl
  subst ecA8
  replace hK : va_K D vwCl (ty4 cI cY cJ cQ) s := hK.sub (tys' := ty4 cI cY cJ cQ) [0, 1, 2, 3] rfl
  replace hP : va_P D vwCl [(h0, .inr (6, [.ref q1, .ref q3, .ref q5, .null, .int 0])), (aI cI q1 60 (fun _ => 0)), (aI cI q3 60 (fun _ => 0)), (aI cI q5 60 (fun _ => 0)), (aI cI q7 60 (fun _ => 0))] H := hP
  replace hD : va_D A [(h0, .inr (6, [.ref q1, .ref q3, .ref q5, .null, .int 0])), (aI cI q1 60 (fun _ => 0)), (aI cI q3 60 (fun _ => 0)), (aI cI q5 60 (fun _ => 0)), (aI cI q7 60 (fun _ => 0))] := hD
  refine W.widen (k := 4) (n := 240) (by first | exact Nat.le_of_ble_eq_true rfl | omega) (by first | exact Nat.le_of_ble_eq_true rfl | omega) ?_
  refine va_putF (D := D) (ci := 6) (v := .ref q7) (ty := (.array .int)) (C := RX6) (T := TX6) (N := 5) hx hb hts inX6_init_X6 tyX6 tyX6_ok nmX6 hown hK hP hD hS 0 rfl rfl 3 (by decide) (hts (Cond.fieldLink RX6 21 "PortRooms$Openings" "marks" "[I") (wm_t (wm_l (wm_i 7 rfl)))) (fun _ h9 => h9) rfl hin rfl (tyX6_ok 3 (by decide)) rfl rfl (Nat.le_of_ble_eq_true rfl) dX6_init_33 (fun H locs => ?_)
  clear hP hD hS
  intro hP hD hS
  replace hP : va_P D vwCl [(h0, .inr (6, [.ref q1, .ref q3, .ref q5, .ref q7, .int 0])), (aI cI q1 60 (fun _ => 0)), (aI cI q3 60 (fun _ => 0)), (aI cI q5 60 (fun _ => 0)), (aI cI q7 60 (fun _ => 0))] H := hP
  replace hD : va_D A [(h0, .inr (6, [.ref q1, .ref q3, .ref q5, .ref q7, .int 0])), (aI cI q1 60 (fun _ => 0)), (aI cI q3 60 (fun _ => 0)), (aI cI q5 60 (fun _ => 0)), (aI cI q7 60 (fun _ => 0))] := hD
  have hP9 := hP.sub (ws' := [(h0, .inr (6, [.ref q1, .ref q3, .ref q5, .ref q7, .int 0])), (aI cI q1 60 (fun _ => 0)), (aI cI q3 60 (fun _ => 0)), (aI cI q5 60 (fun _ => 0)), (aI cI q7 60 (fun _ => 0))]) [0, 1, 2, 3, 4] rfl
  have hD9 := hD.sub (ws' := [(h0, .inr (6, [.ref q1, .ref q3, .ref q5, .ref q7, .int 0])), (aI cI q1 60 (fun _ => 0)), (aI cI q3 60 (fun _ => 0)), (aI cI q5 60 (fun _ => 0)), (aI cI q7 60 (fun _ => 0))]) [0, 1, 2, 3, 4] (by decide +kernel) rfl
  exact W.vret hx hb hr (fun t ht hW => ⟨⟨(fun k => ([q1, q3, q5, q7, 0] : List Nat).getD k 0), rfl, trivial, by rw [ht]; exact hP9, va_K.moved hW.alike hK, hD9⟩, hS.F ht⟩) hS.2.2 dX6_init_36

set_option maxHeartbeats 4000000 in
set_option maxRecDepth 100000 in
theorem ct_X4_init (l : Launch) (D : va_G) (cI cY cJ cQ : ClassId) (sz : Nat) (h0 : Nat)   : Met l yX4_init wsX4_init ({ frames := 1, cells := 3, slots := 60, locals := 12 }) (cPre D (ty4 cI cY cJ cQ) [(h0, .inr (4, [.null, .null, .null, .int 0]))] sz [.ref h0]) (va_Qv (fun (u : Nat → Nat) => True) (cB D (ty4 cI cY cJ cQ) (fun (u : Nat → Nat) => [(h0, .inr (4, [.ref (u 0), .ref (u 1), .ref (u 2), .int 0])), (aI cI (u 0) 20 (fun _ => 0)), (aI cI (u 1) 20 (fun _ => 0)), (aI cI (u 2) 20 (fun _ => 0))]) (va_A [(h0, .inr (4, [.null, .null, .null, .int 0]))] sz)) (va_A [(h0, .inr (4, [.null, .null, .null, .int 0]))] sz)) 3 60 (va_A [(h0, .inr (4, [.null, .null, .null, .int 0]))] sz) := by
  refine Met.ofW (cc := cX4_init) (maxL := 1) (ret := none) (by decide) rfl ?_
  intro p e s m args below meth c s₁ B hml hv
  obtain ⟨rfl, hsz, hP, hK, hD0, hN⟩ := hv
  have hx := B.exec
  have hb := B.bytes
  have hr := B.returns
  have hts := atoms_spec (ws := wsX4_init) B.pre
  have hown : s.vm.findClass RX4 = some m.cls := findClass_of_methodNamed B.named
  have hlocks := B.notSynchronized
  have hin : meth.name = "<init>" := (name_of_methodNamed B.named B.method).1
  subst hsz
  have hD := hD0.self (sz := s.heap.size)
  generalize hAe : va_A [(h0, .inr (4, [.null, .null, .null, .int 0]))] s.heap.size = A at hD ⊢
  have hA : ∀ q : Nat, s.heap.size ≤ q → A q := fun q h => by rw [← hAe]; exact Or.inr h
  have hS : va_S A s.heap s.heap [] := va_S.rf
  have hP : va_P D vwCl [(h0, .inr (4, [.null, .null, .null, .int 0]))] s.heap := hP
  have hl := lv_entry ([.ref h0]) (n := 1) (Nat.le_of_ble_eq_true rfl)
  rw [lg_entry_eq]
  generalize (lg_sl ([.ref h0]) ++ List.replicate (1 - (lg_sl ([.ref h0])).length) Slot.unset).toArray = ls at hl ⊢
  have hl : lv_has ls 1 [(0, .ref h0)] := hl
  refine lv_aload_n hx hb dX4_init_0 rfl (lv_at hl 0 rfl) ?_
  refine W.objInit hx hb hown (hts (Cond.methodLink RX4 3 objectInit) (wm_t (wm_l (wm_i 0 rfl)))) (hts (Cond.instanceMethod objectInit) (wm_t (wm_l (wm_i 1 rfl)))) (hts _ (by decide +kernel)) rfl (by rw [hml]; exact hl.1) rfl dX4_init_1 (Nat.le_of_ble_eq_true rfl) (Nat.le_of_ble_eq_true rfl) ?_
  refine W.eq (g2 := F0 m 4 ls []) rfl ?_
  refine lv_aload_n hx hb dX4_init_4 rfl (lv_at hl 0 rfl) ?_
  refine lv_bipush (v := 20) hx hb dX4_init_5 (by decide) ?_
  refine va_newa (atype := .int) (ty := .int) (a0 := (20, .inl (fun _ => 0))) hx hb (hts (Cond.arrayClass .int) (wm_t (wm_l (wm_i 3 rfl)))) rfl hK hP hD hS hA (fun _ => rfl) (by decide) (by decide) (by decide) (Nat.le_of_ble_eq_true rfl) (Nat.le_of_ble_eq_true rfl) dX4_init_7 (fun q1 cA2 H => ?_)
  clear hK hP hD hS
  intro hK hP hD hS
  have ecA2 : cI = cA2 := cls_eq hK 0 4 rfl rfl
  subst ecA2
  replace hK : va_K D vwCl (ty4 cI cY cJ cQ) s := hK.sub (tys' := ty4 cI cY cJ cQ) [0, 1, 2, 3] rfl
  replace hP : va_P D vwCl [(h0, .inr (4, [.null, .null, .null, .int 0])), (aI cI q1 20 (fun _ => 0))] H := hP
  replace hD : va_D A [(h0, .inr (4, [.null, .null, .null, .int 0])), (aI cI q1 20 (fun _ => 0))] := hD
  refine W.widen (k := 1) (n := 20) (by first | exact Nat.le_of_ble_eq_true rfl | omega) (by first | exact Nat.le_of_ble_eq_true rfl | omega) ?_
  refine va_putF (D := D) (ci := 4) (v := .ref q1) (ty := (.array .int)) (C := RX4) (T := TX4) (N := 4) hx hb hts inX4_init_X4 tyX4 tyX4_ok nmX4 hown hK hP hD hS 0 rfl rfl 0 (by decide) (hts (Cond.fieldLink RX4 9 "PortRooms$Lists" "person" "[I") (wm_t (wm_l (wm_i 4 rfl)))) (fun _ h9 => h9) rfl hin rfl (tyX4_ok 0 (by decide)) rfl rfl (Nat.le_of_ble_eq_true rfl) dX4_init_9 (fun H locs => ?_)
  clear hP hD hS
  intro hP hD hS
  replace hP : va_P D vwCl [(h0, .inr (4, [.ref q1, .null, .null, .int 0])), (aI cI q1 20 (fun _ => 0))] H := hP
  replace hD : va_D A [(h0, .inr (4, [.ref q1, .null, .null, .int 0])), (aI cI q1 20 (fun _ => 0))] := hD
  refine lv_aload_n hx hb dX4_init_12 rfl (lv_at hl 0 rfl) ?_
  refine lv_bipush (v := 20) hx hb dX4_init_13 (by decide) ?_
  refine va_newa (atype := .int) (ty := .int) (a0 := (20, .inl (fun _ => 0))) hx hb (hts (Cond.arrayClass .int) (wm_t (wm_l (wm_i 3 rfl)))) rfl hK hP hD hS hA (fun _ => rfl) (by decide) (by decide) (by decide) (Nat.le_of_ble_eq_true rfl) (Nat.le_of_ble_eq_true rfl) dX4_init_15 (fun q3 cA4 H => ?_)
  clear hK hP hD hS
  intro hK hP hD hS
  have ecA4 : cI = cA4 := cls_eq hK 0 4 rfl rfl
  subst ecA4
  replace hK : va_K D vwCl (ty4 cI cY cJ cQ) s := hK.sub (tys' := ty4 cI cY cJ cQ) [0, 1, 2, 3] rfl
  replace hP : va_P D vwCl [(h0, .inr (4, [.ref q1, .null, .null, .int 0])), (aI cI q1 20 (fun _ => 0)), (aI cI q3 20 (fun _ => 0))] H := hP
  replace hD : va_D A [(h0, .inr (4, [.ref q1, .null, .null, .int 0])), (aI cI q1 20 (fun _ => 0)), (aI cI q3 20 (fun _ => 0))] := hD
  refine W.widen (k := 2) (n := 40) (by first | exact Nat.le_of_ble_eq_true rfl | omega) (by first | exact Nat.le_of_ble_eq_true rfl | omega) ?_
  refine va_putF (D := D) (ci := 4) (v := .ref q3) (ty := (.array .int)) (C := RX4) (T := TX4) (N := 4) hx hb hts inX4_init_X4 tyX4 tyX4_ok nmX4 hown hK hP hD hS 0 rfl rfl 1 (by decide) (hts (Cond.fieldLink RX4 15 "PortRooms$Lists" "from" "[I") (wm_t (wm_l (wm_i 5 rfl)))) (fun _ h9 => h9) rfl hin rfl (tyX4_ok 1 (by decide)) rfl rfl (Nat.le_of_ble_eq_true rfl) dX4_init_17 (fun H locs => ?_)
  clear hP hD hS
  intro hP hD hS
  replace hP : va_P D vwCl [(h0, .inr (4, [.ref q1, .ref q3, .null, .int 0])), (aI cI q1 20 (fun _ => 0)), (aI cI q3 20 (fun _ => 0))] H := hP
  replace hD : va_D A [(h0, .inr (4, [.ref q1, .ref q3, .null, .int 0])), (aI cI q1 20 (fun _ => 0)), (aI cI q3 20 (fun _ => 0))] := hD
  refine lv_aload_n hx hb dX4_init_20 rfl (lv_at hl 0 rfl) ?_
  refine lv_bipush (v := 20) hx hb dX4_init_21 (by decide) ?_
  refine va_newa (atype := .int) (ty := .int) (a0 := (20, .inl (fun _ => 0))) hx hb (hts (Cond.arrayClass .int) (wm_t (wm_l (wm_i 3 rfl)))) rfl hK hP hD hS hA (fun _ => rfl) (by decide) (by decide) (by decide) (Nat.le_of_ble_eq_true rfl) (Nat.le_of_ble_eq_true rfl) dX4_init_23 (fun q5 cA6 H => ?_)
  clear hK hP hD hS
  intro hK hP hD hS
  have ecA6 : cI = cA6 := cls_eq hK 0 4 rfl rfl
  subst ecA6
  replace hK : va_K D vwCl (ty4 cI cY cJ cQ) s := hK.sub (tys' := ty4 cI cY cJ cQ) [0, 1, 2, 3] rfl
  replace hP : va_P D vwCl [(h0, .inr (4, [.ref q1, .ref q3, .null, .int 0])), (aI cI q1 20 (fun _ => 0)), (aI cI q3 20 (fun _ => 0)), (aI cI q5 20 (fun _ => 0))] H := hP
  replace hD : va_D A [(h0, .inr (4, [.ref q1, .ref q3, .null, .int 0])), (aI cI q1 20 (fun _ => 0)), (aI cI q3 20 (fun _ => 0)), (aI cI q5 20 (fun _ => 0))] := hD
  refine W.widen (k := 3) (n := 60) (by first | exact Nat.le_of_ble_eq_true rfl | omega) (by first | exact Nat.le_of_ble_eq_true rfl | omega) ?_
  refine va_putF (D := D) (ci := 4) (v := .ref q5) (ty := (.array .int)) (C := RX4) (T := TX4) (N := 4) hx hb hts inX4_init_X4 tyX4 tyX4_ok nmX4 hown hK hP hD hS 0 rfl rfl 2 (by decide) (hts (Cond.fieldLink RX4 18 "PortRooms$Lists" "to" "[I") (wm_t (wm_l (wm_i 6 rfl)))) (fun _ h9 => h9) rfl hin rfl (tyX4_ok 2 (by decide)) rfl rfl (Nat.le_of_ble_eq_true rfl) dX4_init_25 (fun H locs => ?_)
  clear hP hD hS
  intro hP hD hS
  replace hP : va_P D vwCl [(h0, .inr (4, [.ref q1, .ref q3, .ref q5, .int 0])), (aI cI q1 20 (fun _ => 0)), (aI cI q3 20 (fun _ => 0)), (aI cI q5 20 (fun _ => 0))] H := hP
  replace hD : va_D A [(h0, .inr (4, [.ref q1, .ref q3, .ref q5, .int 0])), (aI cI q1 20 (fun _ => 0)), (aI cI q3 20 (fun _ => 0)), (aI cI q5 20 (fun _ => 0))] := hD
  have hP9 := hP.sub (ws' := [(h0, .inr (4, [.ref q1, .ref q3, .ref q5, .int 0])), (aI cI q1 20 (fun _ => 0)), (aI cI q3 20 (fun _ => 0)), (aI cI q5 20 (fun _ => 0))]) [0, 1, 2, 3] rfl
  have hD9 := hD.sub (ws' := [(h0, .inr (4, [.ref q1, .ref q3, .ref q5, .int 0])), (aI cI q1 20 (fun _ => 0)), (aI cI q3 20 (fun _ => 0)), (aI cI q5 20 (fun _ => 0))]) [0, 1, 2, 3] (by decide +kernel) rfl
  exact W.vret hx hb hr (fun t ht hW => ⟨⟨(fun k => ([q1, q3, q5, 0] : List Nat).getD k 0), rfl, trivial, by rw [ht]; exact hP9, va_K.moved hW.alike hK, hD9⟩, hS.F ht⟩) hS.2.2 dX4_init_28

set_option maxHeartbeats 4000000 in
set_option maxRecDepth 100000 in
theorem ct_X5_init (l : Launch) (D : va_G) (cI cY cJ cQ : ClassId) (sz : Nat) (h0 : Nat) (itsd : Int32)  : Met l yX5_init wsX5_init ({ frames := 1, cells := 1, slots := 12, locals := 12 }) (cPre D (ty4 cI cY cJ cQ) [(h0, .inr (5, [.int 0, .null]))] sz [.ref h0, .int itsd]) (va_Qv (fun (u : Nat → Nat) => True) (cB D (ty4 cI cY cJ cQ) (fun (u : Nat → Nat) => [(h0, .inr (5, [.int itsd, .ref (u 1)])), (aJ cJ (u 1) 12 (fun _ => 0))]) (va_A [(h0, .inr (5, [.int 0, .null]))] sz)) (va_A [(h0, .inr (5, [.int 0, .null]))] sz)) 1 12 (va_A [(h0, .inr (5, [.int 0, .null]))] sz) := by
  refine Met.ofW (cc := cX5_init) (maxL := 2) (ret := none) (by decide) rfl ?_
  intro p e s m args below meth c s₁ B hml hv
  obtain ⟨rfl, hsz, hP, hK, hD0, hN⟩ := hv
  have hx := B.exec
  have hb := B.bytes
  have hr := B.returns
  have hts := atoms_spec (ws := wsX5_init) B.pre
  have hown : s.vm.findClass RX5 = some m.cls := findClass_of_methodNamed B.named
  have hlocks := B.notSynchronized
  have hin : meth.name = "<init>" := (name_of_methodNamed B.named B.method).1
  subst hsz
  have hD := hD0.self (sz := s.heap.size)
  generalize hAe : va_A [(h0, .inr (5, [.int 0, .null]))] s.heap.size = A at hD ⊢
  have hA : ∀ q : Nat, s.heap.size ≤ q → A q := fun q h => by rw [← hAe]; exact Or.inr h
  have hS : va_S A s.heap s.heap [] := va_S.rf
  have hP : va_P D vwCl [(h0, .inr (5, [.int 0, .null]))] s.heap := hP
  have hl := lv_entry ([.ref h0, .int itsd]) (n := 2) (Nat.le_of_ble_eq_true rfl)
  rw [lg_entry_eq]
  generalize (lg_sl ([.ref h0, .int itsd]) ++ List.replicate (2 - (lg_sl ([.ref h0, .int itsd])).length) Slot.unset).toArray = ls at hl ⊢
  have hl : lv_has ls 2 [(0, .ref h0), (1, .int itsd)] := hl
  refine lv_aload_n hx hb dX5_init_0 rfl (lv_at hl 0 rfl) ?_
  refine W.objInit hx hb hown (hts (Cond.methodLink RX5 3 objectInit) (wm_t (wm_l (wm_i 0 rfl)))) (hts (Cond.instanceMethod objectInit) (wm_t (wm_l (wm_i 1 rfl)))) (hts _ (by decide +kernel)) rfl (by rw [hml]; exact hl.1) rfl dX5_init_1 (Nat.le_of_ble_eq_true rfl) (Nat.le_of_ble_eq_true rfl) ?_
  refine W.eq (g2 := F0 m 4 ls []) rfl ?_
  refine lv_aload_n hx hb dX5_init_4 rfl (lv_at hl 0 rfl) ?_
  refine lv_bipush (v := 12) hx hb dX5_init_5 (by decide) ?_
  refine va_newa (atype := .long) (ty := .long) (a0 := (12, .inr (.inl (fun _ => 0)))) hx hb (hts (Cond.arrayClass .long) (wm_t (wm_l (wm_i 3 rfl)))) rfl hK hP hD hS hA (fun _ => rfl) (by decide) (by decide) (by decide) (Nat.le_of_ble_eq_true rfl) (Nat.le_of_ble_eq_true rfl) dX5_init_7 (fun q1 cA2 H => ?_)
  clear hK hP hD hS
  intro hK hP hD hS
  have ecA2 : cJ = cA2 := cls_eq hK 2 4 rfl rfl
  subst ecA2
  replace hK : va_K D vwCl (ty4 cI cY cJ cQ) s := hK.sub (tys' := ty4 cI cY cJ cQ) [0, 1, 2, 3] rfl
  replace hP : va_P D vwCl [(h0, .inr (5, [.int 0, .null])), (aJ cJ q1 12 (fun _ => 0))] H := hP
  replace hD : va_D A [(h0, .inr (5, [.int 0, .null])), (aJ cJ q1 12 (fun _ => 0))] := hD
  refine W.widen (k := 1) (n := 12) (by first | exact Nat.le_of_ble_eq_true rfl | omega) (by first | exact Nat.le_of_ble_eq_true rfl | omega) ?_
  refine va_putF (D := D) (ci := 5) (v := .ref q1) (ty := (.array .long)) (C := RX5) (T := TX5) (N := 2) hx hb hts inX5_init_X5 tyX5 tyX5_ok nmX5 hown hK hP hD hS 0 rfl rfl 1 (by decide) (hts (Cond.fieldLink RX5 9 "PortRooms$Looks" "lots" "[J") (wm_t (wm_l (wm_i 4 rfl)))) (fun _ h9 => h9) rfl hin rfl (tyX5_ok 1 (by decide)) rfl rfl (Nat.le_of_ble_eq_true rfl) dX5_init_9 (fun H locs => ?_)
  clear hP hD hS
  intro hP hD hS
  replace hP : va_P D vwCl [(h0, .inr (5, [.int 0, .ref q1])), (aJ cJ q1 12 (fun _ => 0))] H := hP
  replace hD : va_D A [(h0, .inr (5, [.int 0, .ref q1])), (aJ cJ q1 12 (fun _ => 0))] := hD
  refine lv_aload_n hx hb dX5_init_12 rfl (lv_at hl 0 rfl) ?_
  refine lv_iload_n hx hb dX5_init_13 rfl (lv_at hl 1 rfl) ?_
  refine va_putF (D := D) (ci := 5) (v := .int itsd) (ty := .int) (C := RX5) (T := TX5) (N := 2) hx hb hts inX5_init_X5 tyX5 tyX5_ok nmX5 hown hK hP hD hS 0 rfl rfl 0 (by decide) (hts (Cond.fieldLink RX5 15 "PortRooms$Looks" "seed" "I") (wm_t (wm_l (wm_i 5 rfl)))) (fun _ h9 => h9) rfl hin rfl (tyX5_ok 0 (by decide)) rfl rfl (Nat.le_of_ble_eq_true rfl) dX5_init_14 (fun H locs => ?_)
  clear hP hD hS
  intro hP hD hS
  replace hP : va_P D vwCl [(h0, .inr (5, [.int itsd, .ref q1])), (aJ cJ q1 12 (fun _ => 0))] H := hP
  replace hD : va_D A [(h0, .inr (5, [.int itsd, .ref q1])), (aJ cJ q1 12 (fun _ => 0))] := hD
  have hP9 := hP.sub (ws' := [(h0, .inr (5, [.int itsd, .ref q1])), (aJ cJ q1 12 (fun _ => 0))]) [0, 1] rfl
  have hD9 := hD.sub (ws' := [(h0, .inr (5, [.int itsd, .ref q1])), (aJ cJ q1 12 (fun _ => 0))]) [0, 1] (by decide +kernel) rfl
  exact W.vret hx hb hr (fun t ht hW => ⟨⟨(fun k => ([0, q1] : List Nat).getD k 0), rfl, trivial, by rw [ht]; exact hP9, va_K.moved hW.alike hK, hD9⟩, hS.F ht⟩) hS.2.2 dX5_init_17

set_option maxHeartbeats 4000000 in
set_option maxRecDepth 100000 in
theorem ct_X9_init (l : Launch) (D : va_G) (cI cY cJ cQ : ClassId) (sz : Nat) (h0 : Nat)   : Met l yX9_init wsX9_init ({ frames := 1, cells := 11, slots := 504, locals := 23 }) (cPre D (ty4 cI cY cJ cQ) [(h0, .inr (9, [.null, .null, .null]))] sz [.ref h0]) (va_Qv (fun (u : (Nat → Nat) × (Nat → Nat)) => True) (cB D (ty4 cI cY cJ cQ) (fun (u : (Nat → Nat) × (Nat → Nat)) => [(h0, .inr (9, [.ref (u.1 0), .ref (u.1 1), .ref (u.1 2)])), ((u.1 0), .inl (cQ, 8, .inr (.inr (.inr (.inr (fun i => if i < 8 then some (u.2 i) else none)))))), (aI cI (u.2 0) 60 (fun _ => 0)), (aI cI (u.2 1) 60 (fun _ => 0)), (aI cI (u.2 2) 60 (fun _ => 0)), (aI cI (u.2 3) 60 (fun _ => 0)), (aI cI (u.2 4) 60 (fun _ => 0)), (aI cI (u.2 5) 60 (fun _ => 0)), (aI cI (u.2 6) 60 (fun _ => 0)), (aI cI (u.2 7) 60 (fun _ => 0)), (aI cI (u.1 1) 8 (fun _ => 0)), (aI cI (u.1 2) 8 (fun _ => (-1)))]) (va_A [(h0, .inr (9, [.null, .null, .null]))] sz)) (va_A [(h0, .inr (9, [.null, .null, .null]))] sz)) 11 504 (va_A [(h0, .inr (9, [.null, .null, .null]))] sz) := by
  refine Met.ofW (cc := cX9_init) (maxL := 1) (ret := none) (by decide) rfl ?_
  intro p e s m args below meth c s₁ B hml hv
  obtain ⟨rfl, hsz, hP, hK, hD0, hN⟩ := hv
  have hx := B.exec
  have hb := B.bytes
  have hr := B.returns
  have hts := atoms_spec (ws := wsX9_init) B.pre
  have hown : s.vm.findClass RX9 = some m.cls := findClass_of_methodNamed B.named
  have hlocks := B.notSynchronized
  have hin : meth.name = "<init>" := (name_of_methodNamed B.named B.method).1
  subst hsz
  have hD := hD0.self (sz := s.heap.size)
  generalize hAe : va_A [(h0, .inr (9, [.null, .null, .null]))] s.heap.size = A at hD ⊢
  have hA : ∀ q : Nat, s.heap.size ≤ q → A q := fun q h => by rw [← hAe]; exact Or.inr h
  have hS : va_S A s.heap s.heap [] := va_S.rf
  have hP : va_P D vwCl [(h0, .inr (9, [.null, .null, .null]))] s.heap := hP
  have hl := lv_entry ([.ref h0]) (n := 1) (Nat.le_of_ble_eq_true rfl)
  rw [lg_entry_eq]
  generalize (lg_sl ([.ref h0]) ++ List.replicate (1 - (lg_sl ([.ref h0])).length) Slot.unset).toArray = ls at hl ⊢
  have hl : lv_has ls 1 [(0, .ref h0)] := hl
  have km1 : (-1 : Int32).toInt = -1 := by decide
  refine lv_aload_n hx hb dX9_init_0 rfl (lv_at hl 0 rfl) ?_
  refine W.objInit hx hb hown (hts (Cond.methodLink RX9 3 objectInit) (wm_t (wm_l (wm_i 0 rfl)))) (hts (Cond.instanceMethod objectInit) (wm_t (wm_l (wm_i 1 rfl)))) (hts _ (by decide +kernel)) rfl (by rw [hml]; exact hl.1) rfl dX9_init_1 (Nat.le_of_ble_eq_true rfl) (Nat.le_of_ble_eq_true rfl) ?_
  refine W.eq (g2 := F0 m 4 ls []) rfl ?_
  refine lv_aload_n hx hb dX9_init_4 rfl (lv_at hl 0 rfl) ?_
  refine lv_bipush (v := 8) hx hb dX9_init_5 (by decide) ?_
  refine lv_bipush (v := 60) hx hb dX9_init_7 (by decide) ?_
  refine va_mna (X := [(h0, .inr (9, [.null, .null, .null]))]) (L := []) (f := fun _ => .inr (0, [])) (ty := .int) (cy := cI) (z := (60, .inl (fun _ => 0))) (N' := 8) (K' := 60) hx hb hown (hts (Cond.classLink RX9 9 "[[I") (wm_t (wm_l (wm_i 3 rfl)))) hN.2 (hts (Cond.arrayClass .int) (wm_t (wm_l (wm_i 4 rfl)))) (by have h9 := (hK.2 0 _ rfl).2; exact h9) hK hP hD hS hA (by decide) (by decide) (by decide) (by decide) (by decide) (by decide) (by decide) rfl rfl (Nat.le_of_ble_eq_true rfl) (Nat.le_of_ble_eq_true rfl) (fun _ => arrV_new _ _ _) dX9_init_9 (fun q1 rw2 cA3 H h_inj h_new => ?_)
  clear hK hP hD hS
  intro hK hP hD hS
  rw [List.nil_append, pl_up] at hP hD
  have ecA3 : cQ = cA3 := cls_eq hK 3 4 rfl rfl
  subst ecA3
  replace hK : va_K D vwCl (ty4 cI cY cJ cQ) s := hK.sub (tys' := ty4 cI cY cJ cQ) [0, 1, 2, 3] rfl
  replace hP : va_P D vwCl [(h0, .inr (9, [.null, .null, .null])), (q1, .inl (cQ, 8, .inr (.inr (.inr (.inr (fun i => if i < 8 then some (rw2 i) else none)))))), (aI cI (rw2 0) 60 (fun _ => 0)), (aI cI (rw2 1) 60 (fun _ => 0)), (aI cI (rw2 2) 60 (fun _ => 0)), (aI cI (rw2 3) 60 (fun _ => 0)), (aI cI (rw2 4) 60 (fun _ => 0)), (aI cI (rw2 5) 60 (fun _ => 0)), (aI cI (rw2 6) 60 (fun _ => 0)), (aI cI (rw2 7) 60 (fun _ => 0))] H := hP
  replace hD : va_D A [(h0, .inr (9, [.null, .null, .null])), (q1, .inl (cQ, 8, .inr (.inr (.inr (.inr (fun i => if i < 8 then some (rw2 i) else none)))))), (aI cI (rw2 0) 60 (fun _ => 0)), (aI cI (rw2 1) 60 (fun _ => 0)), (aI cI (rw2 2) 60 (fun _ => 0)), (aI cI (rw2 3) 60 (fun _ => 0)), (aI cI (rw2 4) 60 (fun _ => 0)), (aI cI (rw2 5) 60 (fun _ => 0)), (aI cI (rw2 6) 60 (fun _ => 0)), (aI cI (rw2 7) 60 (fun _ => 0))] := hD
  refine W.widen (k := 9) (n := 488) (by first | exact Nat.le_of_ble_eq_true rfl | omega) (by first | exact Nat.le_of_ble_eq_true rfl | omega) ?_
  refine va_putF (D := D) (ci := 9) (v := .ref q1) (ty := (.array (.array .int))) (C := RX9) (T := TX9) (N := 3) hx hb hts inX9_init_X9 tyX9 tyX9_ok nmX9 hown hK hP hD hS 0 rfl rfl 0 (by decide) (hts (Cond.fieldLink RX9 11 "PortRooms$Sheets" "items" "[[I") (wm_t (wm_l (wm_i 5 rfl)))) (fun _ h9 => h9) rfl hin rfl (tyX9_ok 0 (by decide)) rfl rfl (Nat.le_of_ble_eq_true rfl) dX9_init_13 (fun H locs => ?_)
  clear hP hD hS
  intro hP hD hS
  replace hP : va_P D vwCl [(h0, .inr (9, [.ref q1, .null, .null])), (q1, .inl (cQ, 8, .inr (.inr (.inr (.inr (fun i => if i < 8 then some (rw2 i) else none)))))), (aI cI (rw2 0) 60 (fun _ => 0)), (aI cI (rw2 1) 60 (fun _ => 0)), (aI cI (rw2 2) 60 (fun _ => 0)), (aI cI (rw2 3) 60 (fun _ => 0)), (aI cI (rw2 4) 60 (fun _ => 0)), (aI cI (rw2 5) 60 (fun _ => 0)), (aI cI (rw2 6) 60 (fun _ => 0)), (aI cI (rw2 7) 60 (fun _ => 0))] H := hP
  replace hD : va_D A [(h0, .inr (9, [.ref q1, .null, .null])), (q1, .inl (cQ, 8, .inr (.inr (.inr (.inr (fun i => if i < 8 then some (rw2 i) else none)))))), (aI cI (rw2 0) 60 (fun _ => 0)), (aI cI (rw2 1) 60 (fun _ => 0)), (aI cI (rw2 2) 60 (fun _ => 0)), (aI cI (rw2 3) 60 (fun _ => 0)), (aI cI (rw2 4) 60 (fun _ => 0)), (aI cI (rw2 5) 60 (fun _ => 0)), (aI cI (rw2 6) 60 (fun _ => 0)), (aI cI (rw2 7) 60 (fun _ => 0))] := hD
  refine lv_aload_n hx hb dX9_init_16 rfl (lv_at hl 0 rfl) ?_
  refine lv_bipush (v := 8) hx hb dX9_init_17 (by decide) ?_
  refine va_newa (atype := .int) (ty := .int) (a0 := (8, .inl (fun _ => 0))) hx hb (hts (Cond.arrayClass .int) (wm_t (wm_l (wm_i 4 rfl)))) rfl hK hP hD hS hA (fun _ => rfl) (by decide) (by decide) (by decide) (Nat.le_of_ble_eq_true rfl) (Nat.le_of_ble_eq_true rfl) dX9_init_19 (fun q4 cA5 H => ?_)
  clear hK hP hD hS
  intro hK hP hD hS
  have ecA5 : cI = cA5 := cls_eq hK 0 4 rfl rfl
  subst ecA5
  replace hK : va_K D vwCl (ty4 cI cY cJ cQ) s := hK.sub (tys' := ty4 cI cY cJ cQ) [0, 1, 2, 3] rfl
  replace hP : va_P D vwCl [(h0, .inr (9, [.ref q1, .null, .null])), (q1, .inl (cQ, 8, .inr (.inr (.inr (.inr (fun i => if i < 8 then some (rw2 i) else none)))))), (aI cI (rw2 0) 60 (fun _ => 0)), (aI cI (rw2 1) 60 (fun _ => 0)), (aI cI (rw2 2) 60 (fun _ => 0)), (aI cI (rw2 3) 60 (fun _ => 0)), (aI cI (rw2 4) 60 (fun _ => 0)), (aI cI (rw2 5) 60 (fun _ => 0)), (aI cI (rw2 6) 60 (fun _ => 0)), (aI cI (rw2 7) 60 (fun _ => 0)), (aI cI q4 8 (fun _ => 0))] H := hP
  replace hD : va_D A [(h0, .inr (9, [.ref q1, .null, .null])), (q1, .inl (cQ, 8, .inr (.inr (.inr (.inr (fun i => if i < 8 then some (rw2 i) else none)))))), (aI cI (rw2 0) 60 (fun _ => 0)), (aI cI (rw2 1) 60 (fun _ => 0)), (aI cI (rw2 2) 60 (fun _ => 0)), (aI cI (rw2 3) 60 (fun _ => 0)), (aI cI (rw2 4) 60 (fun _ => 0)), (aI cI (rw2 5) 60 (fun _ => 0)), (aI cI (rw2 6) 60 (fun _ => 0)), (aI cI (rw2 7) 60 (fun _ => 0)), (aI cI q4 8 (fun _ => 0))] := hD
  refine W.widen (k := 10) (n := 496) (by first | exact Nat.le_of_ble_eq_true rfl | omega) (by first | exact Nat.le_of_ble_eq_true rfl | omega) ?_
  refine va_putF (D := D) (ci := 9) (v := .ref q4) (ty := (.array .int)) (C := RX9) (T := TX9) (N := 3) hx hb hts inX9_init_X9 tyX9 tyX9_ok nmX9 hown hK hP hD hS 0 rfl rfl 1 (by decide) (hts (Cond.fieldLink RX9 16 "PortRooms$Sheets" "lane" "[I") (wm_t (wm_l (wm_i 6 rfl)))) (fun _ h9 => h9) rfl hin rfl (tyX9_ok 1 (by decide)) rfl rfl (Nat.le_of_ble_eq_true rfl) dX9_init_21 (fun H locs => ?_)
  clear hP hD hS
  intro hP hD hS
  replace hP : va_P D vwCl [(h0, .inr (9, [.ref q1, .ref q4, .null])), (q1, .inl (cQ, 8, .inr (.inr (.inr (.inr (fun i => if i < 8 then some (rw2 i) else none)))))), (aI cI (rw2 0) 60 (fun _ => 0)), (aI cI (rw2 1) 60 (fun _ => 0)), (aI cI (rw2 2) 60 (fun _ => 0)), (aI cI (rw2 3) 60 (fun _ => 0)), (aI cI (rw2 4) 60 (fun _ => 0)), (aI cI (rw2 5) 60 (fun _ => 0)), (aI cI (rw2 6) 60 (fun _ => 0)), (aI cI (rw2 7) 60 (fun _ => 0)), (aI cI q4 8 (fun _ => 0))] H := hP
  replace hD : va_D A [(h0, .inr (9, [.ref q1, .ref q4, .null])), (q1, .inl (cQ, 8, .inr (.inr (.inr (.inr (fun i => if i < 8 then some (rw2 i) else none)))))), (aI cI (rw2 0) 60 (fun _ => 0)), (aI cI (rw2 1) 60 (fun _ => 0)), (aI cI (rw2 2) 60 (fun _ => 0)), (aI cI (rw2 3) 60 (fun _ => 0)), (aI cI (rw2 4) 60 (fun _ => 0)), (aI cI (rw2 5) 60 (fun _ => 0)), (aI cI (rw2 6) 60 (fun _ => 0)), (aI cI (rw2 7) 60 (fun _ => 0)), (aI cI q4 8 (fun _ => 0))] := hD
  refine lv_aload_n hx hb dX9_init_24 rfl (lv_at hl 0 rfl) ?_
  refine lv_bipush (v := 8) hx hb dX9_init_25 (by decide) ?_
  refine va_newa (atype := .int) (ty := .int) (a0 := (8, .inl (fun _ => 0))) hx hb (hts (Cond.arrayClass .int) (wm_t (wm_l (wm_i 4 rfl)))) rfl hK hP hD hS hA (fun _ => rfl) (by decide) (by decide) (by decide) (Nat.le_of_ble_eq_true rfl) (Nat.le_of_ble_eq_true rfl) dX9_init_27 (fun q6 cA7 H => ?_)
  clear hK hP hD hS
  intro hK hP hD hS
  have ecA7 : cI = cA7 := cls_eq hK 0 4 rfl rfl
  subst ecA7
  replace hK : va_K D vwCl (ty4 cI cY cJ cQ) s := hK.sub (tys' := ty4 cI cY cJ cQ) [0, 1, 2, 3] rfl
  replace hP : va_P D vwCl [(h0, .inr (9, [.ref q1, .ref q4, .null])), (q1, .inl (cQ, 8, .inr (.inr (.inr (.inr (fun i => if i < 8 then some (rw2 i) else none)))))), (aI cI (rw2 0) 60 (fun _ => 0)), (aI cI (rw2 1) 60 (fun _ => 0)), (aI cI (rw2 2) 60 (fun _ => 0)), (aI cI (rw2 3) 60 (fun _ => 0)), (aI cI (rw2 4) 60 (fun _ => 0)), (aI cI (rw2 5) 60 (fun _ => 0)), (aI cI (rw2 6) 60 (fun _ => 0)), (aI cI (rw2 7) 60 (fun _ => 0)), (aI cI q4 8 (fun _ => 0)), (aI cI q6 8 (fun _ => 0))] H := hP
  replace hD : va_D A [(h0, .inr (9, [.ref q1, .ref q4, .null])), (q1, .inl (cQ, 8, .inr (.inr (.inr (.inr (fun i => if i < 8 then some (rw2 i) else none)))))), (aI cI (rw2 0) 60 (fun _ => 0)), (aI cI (rw2 1) 60 (fun _ => 0)), (aI cI (rw2 2) 60 (fun _ => 0)), (aI cI (rw2 3) 60 (fun _ => 0)), (aI cI (rw2 4) 60 (fun _ => 0)), (aI cI (rw2 5) 60 (fun _ => 0)), (aI cI (rw2 6) 60 (fun _ => 0)), (aI cI (rw2 7) 60 (fun _ => 0)), (aI cI q4 8 (fun _ => 0)), (aI cI q6 8 (fun _ => 0))] := hD
  refine W.widen (k := 11) (n := 504) (by first | exact Nat.le_of_ble_eq_true rfl | omega) (by first | exact Nat.le_of_ble_eq_true rfl | omega) ?_
  refine va_putF (D := D) (ci := 9) (v := .ref q6) (ty := (.array .int)) (C := RX9) (T := TX9) (N := 3) hx hb hts inX9_init_X9 tyX9 tyX9_ok nmX9 hown hK hP hD hS 0 rfl rfl 2 (by decide) (hts (Cond.fieldLink RX9 20 "PortRooms$Sheets" "size" "[I") (wm_t (wm_l (wm_i 7 rfl)))) (fun _ h9 => h9) rfl hin rfl (tyX9_ok 2 (by decide)) rfl rfl (Nat.le_of_ble_eq_true rfl) dX9_init_29 (fun H locs => ?_)
  clear hP hD hS
  intro hP hD hS
  replace hP : va_P D vwCl [(h0, .inr (9, [.ref q1, .ref q4, .ref q6])), (q1, .inl (cQ, 8, .inr (.inr (.inr (.inr (fun i => if i < 8 then some (rw2 i) else none)))))), (aI cI (rw2 0) 60 (fun _ => 0)), (aI cI (rw2 1) 60 (fun _ => 0)), (aI cI (rw2 2) 60 (fun _ => 0)), (aI cI (rw2 3) 60 (fun _ => 0)), (aI cI (rw2 4) 60 (fun _ => 0)), (aI cI (rw2 5) 60 (fun _ => 0)), (aI cI (rw2 6) 60 (fun _ => 0)), (aI cI (rw2 7) 60 (fun _ => 0)), (aI cI q4 8 (fun _ => 0)), (aI cI q6 8 (fun _ => 0))] H := hP
  replace hD : va_D A [(h0, .inr (9, [.ref q1, .ref q4, .ref q6])), (q1, .inl (cQ, 8, .inr (.inr (.inr (.inr (fun i => if i < 8 then some (rw2 i) else none)))))), (aI cI (rw2 0) 60 (fun _ => 0)), (aI cI (rw2 1) 60 (fun _ => 0)), (aI cI (rw2 2) 60 (fun _ => 0)), (aI cI (rw2 3) 60 (fun _ => 0)), (aI cI (rw2 4) 60 (fun _ => 0)), (aI cI (rw2 5) 60 (fun _ => 0)), (aI cI (rw2 6) 60 (fun _ => 0)), (aI cI (rw2 7) 60 (fun _ => 0)), (aI cI q4 8 (fun _ => 0)), (aI cI q6 8 (fun _ => 0))] := hD
  refine lv_aload_n hx hb dX9_init_32 rfl (lv_at hl 0 rfl) ?_
  refine va_get (D := D) (ci := 9) (v := .ref q6) (C := RX9) (T := TX9) (N := 3) hx hb hts inX9_init_X9 hown hK hP 0 rfl rfl 2 (by decide) (hts (Cond.fieldLink RX9 20 "PortRooms$Sheets" "size" "[I") (wm_t (wm_l (wm_i 7 rfl)))) (fun _ h9 => h9) rfl dX9_init_33 ?_
  refine lv_iconst (v := (-1)) hx hb dX9_init_36 (by decide) ?_
  refine st_v (wr := [(h0, .inr (9, [.ref q1, .ref q4, .ref q6])), (q1, .inl (cQ, 8, .inr (.inr (.inr (.inr (fun i => if i < 8 then some (rw2 i) else none)))))), (aI cI (rw2 0) 60 (fun _ => 0)), (aI cI (rw2 1) 60 (fun _ => 0)), (aI cI (rw2 2) 60 (fun _ => 0)), (aI cI (rw2 3) 60 (fun _ => 0)), (aI cI (rw2 4) 60 (fun _ => 0)), (aI cI (rw2 5) 60 (fun _ => 0)), (aI cI (rw2 6) 60 (fun _ => 0)), (aI cI (rw2 7) 60 (fun _ => 0)), (aI cI q4 8 (fun _ => 0))]) (va_runS (As := [.ref q6, .int (-1)]) (rest := []) ⟨hx, hb, hml, hown, hts⟩ (cFill l D cI cY cJ cQ _ q6 8 (fun _ => 0) ((-1) : Int32) (by decide)) (va_cwS 2 hts gX9_init_J7_fill_53178 rfl rfl rfl cdJ7_fill_53178 ⟨Nat.le_of_ble_eq_true rfl, Nat.le_of_ble_eq_true rfl⟩) (cPreS (hP.sub [11] rfl) hK (hD.sub [11] (by decide +kernel) rfl) hN) rfl rfl hl.1 rfl (lv_room (Nat.le_of_ble_eq_true rfl)) dX9_init_37 ⟨Nat.le_of_ble_eq_true rfl, Nat.le_of_ble_eq_true rfl⟩) hP hD hS hA [11] [0, 1, 2, 3, 4, 5, 6, 7, 8, 9, 10] rfl rfl (by decide +kernel) (by decide +kernel) (fun u8 H locs hw9 => ?_)
  clear hP hD hS
  intro hP hD hS
  replace hP : va_P D vwCl [(h0, .inr (9, [.ref q1, .ref q4, .ref q6])), (q1, .inl (cQ, 8, .inr (.inr (.inr (.inr (fun i => if i < 8 then some (rw2 i) else none)))))), (aI cI (rw2 0) 60 (fun _ => 0)), (aI cI (rw2 1) 60 (fun _ => 0)), (aI cI (rw2 2) 60 (fun _ => 0)), (aI cI (rw2 3) 60 (fun _ => 0)), (aI cI (rw2 4) 60 (fun _ => 0)), (aI cI (rw2 5) 60 (fun _ => 0)), (aI cI (rw2 6) 60 (fun _ => 0)), (aI cI (rw2 7) 60 (fun _ => 0)), (aI cI q4 8 (fun _ => 0)), (aI cI q6 8 (fun _ => (-1)))] H := hP
  replace hD : va_D A [(h0, .inr (9, [.ref q1, .ref q4, .ref q6])), (q1, .inl (cQ, 8, .inr (.inr (.inr (.inr (fun i => if i < 8 then some (rw2 i) else none)))))), (aI cI (rw2 0) 60 (fun _ => 0)), (aI cI (rw2 1) 60 (fun _ => 0)), (aI cI (rw2 2) 60 (fun _ => 0)), (aI cI (rw2 3) 60 (fun _ => 0)), (aI cI (rw2 4) 60 (fun _ => 0)), (aI cI (rw2 5) 60 (fun _ => 0)), (aI cI (rw2 6) 60 (fun _ => 0)), (aI cI (rw2 7) 60 (fun _ => 0)), (aI cI q4 8 (fun _ => 0)), (aI cI q6 8 (fun _ => (-1)))] := hD
  have hP9 := hP.sub (ws' := [(h0, .inr (9, [.ref q1, .ref q4, .ref q6])), (q1, .inl (cQ, 8, .inr (.inr (.inr (.inr (fun i => if i < 8 then some (rw2 i) else none)))))), (aI cI (rw2 0) 60 (fun _ => 0)), (aI cI (rw2 1) 60 (fun _ => 0)), (aI cI (rw2 2) 60 (fun _ => 0)), (aI cI (rw2 3) 60 (fun _ => 0)), (aI cI (rw2 4) 60 (fun _ => 0)), (aI cI (rw2 5) 60 (fun _ => 0)), (aI cI (rw2 6) 60 (fun _ => 0)), (aI cI (rw2 7) 60 (fun _ => 0)), (aI cI q4 8 (fun _ => 0)), (aI cI q6 8 (fun _ => (-1)))]) [0, 1, 2, 3, 4, 5, 6, 7, 8, 9, 10, 11] rfl
  have hD9 := hD.sub (ws' := [(h0, .inr (9, [.ref q1, .ref q4, .ref q6])), (q1, .inl (cQ, 8, .inr (.inr (.inr (.inr (fun i => if i < 8 then some (rw2 i) else none)))))), (aI cI (rw2 0) 60 (fun _ => 0)), (aI cI (rw2 1) 60 (fun _ => 0)), (aI cI (rw2 2) 60 (fun _ => 0)), (aI cI (rw2 3) 60 (fun _ => 0)), (aI cI (rw2 4) 60 (fun _ => 0)), (aI cI (rw2 5) 60 (fun _ => 0)), (aI cI (rw2 6) 60 (fun _ => 0)), (aI cI (rw2 7) 60 (fun _ => 0)), (aI cI q4 8 (fun _ => 0)), (aI cI q6 8 (fun _ => (-1)))]) [0, 1, 2, 3, 4, 5, 6, 7, 8, 9, 10, 11] (by decide +kernel) rfl
  exact W.vret hx hb hr (fun t ht hW => ⟨⟨((fun k => ([q1, q4, q6] : List Nat).getD k 0), rw2), rfl, trivial, by rw [ht]; exact hP9, va_K.moved hW.alike hK, hD9⟩, hS.F ht⟩) hS.2.2 dX9_init_40
end
