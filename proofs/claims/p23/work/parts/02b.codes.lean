theorem x_tgc {w : Jvm.Cond} {i : Nat} (hg : goodWord w = true) (h : lw_tbl[i]? = some w) : w ∈ x_TG := x_tg i h hg
set_option maxRecDepth 100000 in
theorem x_tc0 : lw_tbl[95]? = some (Jvm.Cond.code (x_nm 0) (x_cd 0) (x_ml 0) (x_rt 0)) := rfl
set_option maxRecDepth 100000 in
theorem x_tc1 : lw_tbl[270]? = some (Jvm.Cond.code (x_nm 1) (x_cd 1) (x_ml 1) (x_rt 1)) := rfl
set_option maxRecDepth 100000 in
theorem x_tc2 : lw_tbl[278]? = some (Jvm.Cond.code (x_nm 2) (x_cd 2) (x_ml 2) (x_rt 2)) := rfl
set_option maxRecDepth 100000 in
theorem x_tc3 : lw_tbl[414]? = some (Jvm.Cond.code (x_nm 3) (x_cd 3) (x_ml 3) (x_rt 3)) := rfl
set_option maxRecDepth 100000 in
theorem x_tc4 : lw_tbl[157]? = some (Jvm.Cond.code (x_nm 4) (x_cd 4) (x_ml 4) (x_rt 4)) := rfl
set_option maxRecDepth 100000 in
theorem x_tc5 : lw_tbl[504]? = some (Jvm.Cond.code (x_nm 5) (x_cd 5) (x_ml 5) (x_rt 5)) := rfl
set_option maxRecDepth 100000 in
theorem x_tc6 : lw_tbl[67]? = some (Jvm.Cond.code (x_nm 6) (x_cd 6) (x_ml 6) (x_rt 6)) := rfl
set_option maxRecDepth 100000 in
theorem x_tc7 : lw_tbl[259]? = some (Jvm.Cond.code (x_nm 7) (x_cd 7) (x_ml 7) (x_rt 7)) := rfl
set_option maxRecDepth 100000 in
theorem x_tc8 : lw_tbl[274]? = some (Jvm.Cond.code (x_nm 8) (x_cd 8) (x_ml 8) (x_rt 8)) := rfl
set_option maxRecDepth 100000 in
theorem x_tc9 : lw_tbl[449]? = some (Jvm.Cond.code (x_nm 9) (x_cd 9) (x_ml 9) (x_rt 9)) := rfl
set_option maxRecDepth 100000 in
theorem x_tc10 : lw_tbl[528]? = some (Jvm.Cond.code (x_nm 10) (x_cd 10) (x_ml 10) (x_rt 10)) := rfl
set_option maxRecDepth 100000 in
theorem x_tc11 : lw_tbl[290]? = some (Jvm.Cond.code (x_nm 11) (x_cd 11) (x_ml 11) (x_rt 11)) := rfl
set_option maxRecDepth 100000 in
theorem x_tc12 : lw_tbl[406]? = some (Jvm.Cond.code (x_nm 12) (x_cd 12) (x_ml 12) (x_rt 12)) := rfl
set_option maxRecDepth 100000 in
theorem x_tc13 : lw_tbl[410]? = some (Jvm.Cond.code (x_nm 13) (x_cd 13) (x_ml 13) (x_rt 13)) := rfl
set_option maxRecDepth 100000 in
theorem x_tc14 : lw_tbl[344]? = some (Jvm.Cond.code (x_nm 14) (x_cd 14) (x_ml 14) (x_rt 14)) := rfl
set_option maxRecDepth 100000 in
theorem x_tc15 : lw_tbl[294]? = some (Jvm.Cond.code (x_nm 15) (x_cd 15) (x_ml 15) (x_rt 15)) := rfl
set_option maxRecDepth 100000 in
theorem x_tc16 : lw_tbl[379]? = some (Jvm.Cond.code (x_nm 16) (x_cd 16) (x_ml 16) (x_rt 16)) := rfl
set_option maxRecDepth 100000 in
theorem x_tc17 : lw_tbl[375]? = some (Jvm.Cond.code (x_nm 17) (x_cd 17) (x_ml 17) (x_rt 17)) := rfl
set_option maxRecDepth 100000 in
theorem x_tc18 : lw_tbl[286]? = some (Jvm.Cond.code (x_nm 18) (x_cd 18) (x_ml 18) (x_rt 18)) := rfl
set_option maxRecDepth 100000 in
theorem x_tc19 : lw_tbl[317]? = some (Jvm.Cond.code (x_nm 19) (x_cd 19) (x_ml 19) (x_rt 19)) := rfl
set_option maxRecDepth 100000 in
theorem x_tc20 : lw_tbl[328]? = some (Jvm.Cond.code (x_nm 20) (x_cd 20) (x_ml 20) (x_rt 20)) := rfl
set_option maxRecDepth 100000 in
theorem x_tc21 : lw_tbl[384]? = some (Jvm.Cond.code (x_nm 21) (x_cd 21) (x_ml 21) (x_rt 21)) := rfl
set_option maxRecDepth 100000 in
theorem x_tc22 : lw_tbl[388]? = some (Jvm.Cond.code (x_nm 22) (x_cd 22) (x_ml 22) (x_rt 22)) := rfl
set_option maxRecDepth 100000 in
theorem x_tc23 : lw_tbl[393]? = some (Jvm.Cond.code (x_nm 23) (x_cd 23) (x_ml 23) (x_rt 23)) := rfl
set_option maxRecDepth 100000 in
theorem x_tc24 : lw_tbl[313]? = some (Jvm.Cond.code (x_nm 24) (x_cd 24) (x_ml 24) (x_rt 24)) := rfl
set_option maxRecDepth 100000 in
theorem x_tc25 : lw_tbl[336]? = some (Jvm.Cond.code (x_nm 25) (x_cd 25) (x_ml 25) (x_rt 25)) := rfl
set_option maxRecDepth 100000 in
theorem x_tc26 : lw_tbl[282]? = some (Jvm.Cond.code (x_nm 26) (x_cd 26) (x_ml 26) (x_rt 26)) := rfl
set_option maxRecDepth 100000 in
theorem x_tc27 : lw_tbl[340]? = some (Jvm.Cond.code (x_nm 27) (x_cd 27) (x_ml 27) (x_rt 27)) := rfl
set_option maxRecDepth 100000 in
theorem x_tc28 : lw_tbl[548]? = some (Jvm.Cond.code (x_nm 28) (x_cd 28) (x_ml 28) (x_rt 28)) := rfl
set_option maxRecDepth 100000 in
theorem x_tc29 : lw_tbl[421]? = some (Jvm.Cond.code (x_nm 29) (x_cd 29) (x_ml 29) (x_rt 29)) := rfl
set_option maxRecDepth 100000 in
theorem x_tc30 : lw_tbl[430]? = some (Jvm.Cond.code (x_nm 30) (x_cd 30) (x_ml 30) (x_rt 30)) := rfl
set_option maxRecDepth 100000 in
theorem x_tc31 : lw_tbl[426]? = some (Jvm.Cond.code (x_nm 31) (x_cd 31) (x_ml 31) (x_rt 31)) := rfl
set_option maxRecDepth 100000 in
theorem x_tc32 : lw_tbl[437]? = some (Jvm.Cond.code (x_nm 32) (x_cd 32) (x_ml 32) (x_rt 32)) := rfl
set_option maxRecDepth 100000 in
theorem x_tc33 : lw_tbl[467]? = some (Jvm.Cond.code (x_nm 33) (x_cd 33) (x_ml 33) (x_rt 33)) := rfl
set_option maxRecDepth 100000 in
theorem x_tc34 : lw_tbl[471]? = some (Jvm.Cond.code (x_nm 34) (x_cd 34) (x_ml 34) (x_rt 34)) := rfl
set_option maxRecDepth 100000 in
theorem x_tc35 : lw_tbl[192]? = some (Jvm.Cond.code (x_nm 35) (x_cd 35) (x_ml 35) (x_rt 35)) := rfl
set_option maxRecDepth 100000 in
theorem x_tc36 : lw_tbl[206]? = some (Jvm.Cond.code (x_nm 36) (x_cd 36) (x_ml 36) (x_rt 36)) := rfl
set_option maxRecDepth 100000 in
theorem x_tc37 : lw_tbl[177]? = some (Jvm.Cond.code (x_nm 37) (x_cd 37) (x_ml 37) (x_rt 37)) := rfl
set_option maxRecDepth 100000 in
theorem x_tc38 : lw_tbl[73]? = some (Jvm.Cond.code (x_nm 38) (x_cd 38) (x_ml 38) (x_rt 38)) := rfl
set_option maxRecDepth 100000 in
theorem x_tc39 : lw_tbl[263]? = some (Jvm.Cond.code (x_nm 39) (x_cd 39) (x_ml 39) (x_rt 39)) := rfl
set_option maxRecDepth 100000 in
theorem x_tc40 : lw_tbl[513]? = some (Jvm.Cond.code (x_nm 40) (x_cd 40) (x_ml 40) (x_rt 40)) := rfl
set_option maxRecDepth 100000 in
theorem x_tc41 : lw_tbl[367]? = some (Jvm.Cond.code (x_nm 41) (x_cd 41) (x_ml 41) (x_rt 41)) := rfl
set_option maxRecDepth 100000 in
theorem x_tc42 : lw_tbl[302]? = some (Jvm.Cond.code (x_nm 42) (x_cd 42) (x_ml 42) (x_rt 42)) := rfl
set_option maxRecDepth 100000 in
theorem x_tc43 : lw_tbl[309]? = some (Jvm.Cond.code (x_nm 43) (x_cd 43) (x_ml 43) (x_rt 43)) := rfl
set_option maxRecDepth 100000 in
theorem x_tc44 : lw_tbl[298]? = some (Jvm.Cond.code (x_nm 44) (x_cd 44) (x_ml 44) (x_rt 44)) := rfl
set_option maxRecDepth 100000 in
theorem x_tc45 : lw_tbl[321]? = some (Jvm.Cond.code (x_nm 45) (x_cd 45) (x_ml 45) (x_rt 45)) := rfl
set_option maxRecDepth 100000 in
theorem x_tc46 : lw_tbl[402]? = some (Jvm.Cond.code (x_nm 46) (x_cd 46) (x_ml 46) (x_rt 46)) := rfl
set_option maxRecDepth 100000 in
theorem x_tc47 : lw_tbl[332]? = some (Jvm.Cond.code (x_nm 47) (x_cd 47) (x_ml 47) (x_rt 47)) := rfl
set_option maxRecDepth 100000 in
theorem x_tc48 : lw_tbl[59]? = some (Jvm.Cond.code (x_nm 48) (x_cd 48) (x_ml 48) (x_rt 48)) := rfl
set_option maxRecDepth 100000 in
theorem x_tc49 : lw_tbl[520]? = some (Jvm.Cond.code (x_nm 49) (x_cd 49) (x_ml 49) (x_rt 49)) := rfl
set_option maxRecDepth 100000 in
theorem x_tc50 : lw_tbl[524]? = some (Jvm.Cond.code (x_nm 50) (x_cd 50) (x_ml 50) (x_rt 50)) := rfl
set_option maxRecDepth 100000 in
theorem x_tc51 : lw_tbl[532]? = some (Jvm.Cond.code (x_nm 51) (x_cd 51) (x_ml 51) (x_rt 51)) := rfl
set_option maxRecDepth 100000 in
theorem x_tc52 : lw_tbl[536]? = some (Jvm.Cond.code (x_nm 52) (x_cd 52) (x_ml 52) (x_rt 52)) := rfl
set_option maxRecDepth 100000 in
theorem x_tc53 : lw_tbl[500]? = some (Jvm.Cond.code (x_nm 53) (x_cd 53) (x_ml 53) (x_rt 53)) := rfl
set_option maxRecDepth 100000 in
theorem x_tc54 : lw_tbl[540]? = some (Jvm.Cond.code (x_nm 54) (x_cd 54) (x_ml 54) (x_rt 54)) := rfl
set_option maxRecDepth 100000 in
theorem x_tc55 : lw_tbl[552]? = some (Jvm.Cond.code (x_nm 55) (x_cd 55) (x_ml 55) (x_rt 55)) := rfl
set_option maxRecDepth 100000 in
theorem x_tc56 : lw_tbl[544]? = some (Jvm.Cond.code (x_nm 56) (x_cd 56) (x_ml 56) (x_rt 56)) := rfl
set_option maxRecDepth 100000 in
theorem x_tc57 : lw_tbl[556]? = some (Jvm.Cond.code (x_nm 57) (x_cd 57) (x_ml 57) (x_rt 57)) := rfl
set_option maxRecDepth 100000 in
theorem x_tc58 : lw_tbl[363]? = some (Jvm.Cond.code (x_nm 58) (x_cd 58) (x_ml 58) (x_rt 58)) := rfl
set_option maxRecDepth 100000 in
theorem x_tc59 : lw_tbl[445]? = some (Jvm.Cond.code (x_nm 59) (x_cd 59) (x_ml 59) (x_rt 59)) := rfl
set_option maxRecDepth 100000 in
theorem x_tc60 : lw_tbl[397]? = some (Jvm.Cond.code (x_nm 60) (x_cd 60) (x_ml 60) (x_rt 60)) := rfl
set_option maxRecDepth 100000 in
theorem x_tc61 : lw_tbl[463]? = some (Jvm.Cond.code (x_nm 61) (x_cd 61) (x_ml 61) (x_rt 61)) := rfl
set_option maxRecDepth 100000 in
theorem x_tc62 : lw_tbl[488]? = some (Jvm.Cond.code (x_nm 62) (x_cd 62) (x_ml 62) (x_rt 62)) := rfl
set_option maxRecDepth 100000 in
theorem x_tc63 : lw_tbl[245]? = some (Jvm.Cond.code (x_nm 63) (x_cd 63) (x_ml 63) (x_rt 63)) := rfl
set_option maxRecDepth 100000 in
theorem x_tc64 : lw_tbl[252]? = some (Jvm.Cond.code (x_nm 64) (x_cd 64) (x_ml 64) (x_rt 64)) := rfl
set_option maxRecDepth 100000 in
theorem x_tc65 : lw_tbl[348]? = some (Jvm.Cond.code (x_nm 65) (x_cd 65) (x_ml 65) (x_rt 65)) := rfl
set_option maxRecDepth 100000 in
theorem x_tc66 : lw_tbl[248]? = some (Jvm.Cond.code (x_nm 66) (x_cd 66) (x_ml 66) (x_rt 66)) := rfl
set_option maxRecDepth 100000 in
theorem x_tc67 : lw_tbl[324]? = some (Jvm.Cond.code (x_nm 67) (x_cd 67) (x_ml 67) (x_rt 67)) := rfl
set_option maxRecDepth 100000 in
theorem x_tc68 : lw_tbl[305]? = some (Jvm.Cond.code (x_nm 68) (x_cd 68) (x_ml 68) (x_rt 68)) := rfl
set_option maxRecDepth 100000 in
theorem x_tc69 : lw_tbl[266]? = some (Jvm.Cond.code (x_nm 69) (x_cd 69) (x_ml 69) (x_rt 69)) := rfl
set_option maxRecDepth 100000 in
theorem x_tc70 : lw_tbl[507]? = some (Jvm.Cond.code (x_nm 70) (x_cd 70) (x_ml 70) (x_rt 70)) := rfl
set_option maxRecDepth 100000 in
theorem x_tc71 : lw_tbl[255]? = some (Jvm.Cond.code (x_nm 71) (x_cd 71) (x_ml 71) (x_rt 71)) := rfl
set_option maxRecDepth 100000 in
theorem x_tc74 : lw_tbl[351]? = some (Jvm.Cond.code (x_nm 74) (x_cd 74) (x_ml 74) (x_rt 74)) := rfl
set_option maxRecDepth 100000 in
theorem x_tc75 : lw_tbl[355]? = some (Jvm.Cond.code (x_nm 75) (x_cd 75) (x_ml 75) (x_rt 75)) := rfl
set_option maxRecDepth 100000 in
theorem x_tc76 : lw_tbl[484]? = some (Jvm.Cond.code (x_nm 76) (x_cd 76) (x_ml 76) (x_rt 76)) := rfl
set_option maxRecDepth 100000 in
theorem x_tc77 : lw_tbl[478]? = some (Jvm.Cond.code (x_nm 77) (x_cd 77) (x_ml 77) (x_rt 77)) := rfl
set_option maxRecDepth 100000 in
theorem x_tc78 : lw_tbl[481]? = some (Jvm.Cond.code (x_nm 78) (x_cd 78) (x_ml 78) (x_rt 78)) := rfl
set_option maxRecDepth 100000 in
theorem x_tc79 : lw_tbl[475]? = some (Jvm.Cond.code (x_nm 79) (x_cd 79) (x_ml 79) (x_rt 79)) := rfl
set_option maxRecDepth 100000 in
theorem x_tc80 : lw_tbl[453]? = some (Jvm.Cond.code (x_nm 80) (x_cd 80) (x_ml 80) (x_rt 80)) := rfl
set_option maxRecDepth 100000 in
theorem x_tc81 : lw_tbl[359]? = some (Jvm.Cond.code (x_nm 81) (x_cd 81) (x_ml 81) (x_rt 81)) := rfl
set_option maxRecDepth 100000 in
theorem x_tc82 : lw_tbl[456]? = some (Jvm.Cond.code (x_nm 82) (x_cd 82) (x_ml 82) (x_rt 82)) := rfl
set_option maxRecDepth 100000 in
theorem x_tc83 : lw_tbl[441]? = some (Jvm.Cond.code (x_nm 83) (x_cd 83) (x_ml 83) (x_rt 83)) := rfl
set_option maxRecDepth 100000 in
theorem x_tc84 : lw_tbl[459]? = some (Jvm.Cond.code (x_nm 84) (x_cd 84) (x_ml 84) (x_rt 84)) := rfl
set_option maxRecDepth 100000 in
theorem x_tc85 : lw_tbl[496]? = some (Jvm.Cond.code (x_nm 85) (x_cd 85) (x_ml 85) (x_rt 85)) := rfl
set_option maxRecDepth 100000 in
theorem x_tc86 : lw_tbl[516]? = some (Jvm.Cond.code (x_nm 86) (x_cd 86) (x_ml 86) (x_rt 86)) := rfl
set_option maxRecDepth 100000 in
theorem x_tc87 : lw_tbl[493]? = some (Jvm.Cond.code (x_nm 87) (x_cd 87) (x_ml 87) (x_rt 87)) := rfl
